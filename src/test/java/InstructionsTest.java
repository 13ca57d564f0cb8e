/** The processor's codes: cycles, results, flags and places (in the terms before promise 1). */
public final class InstructionsTest {
    private static final int N = 128;
    private static final int Z = 2;
    private static final int C = 1;
    private static final int AT = 519;
    private static final int[] CODES = {
        0xA9, 0xA5, 0xAD, 0xBD, 0xA2, 0xA6, 0xA0, 0x85, 0x8D, 0x9D, 0x8E, 0x69, 0x65, 0xE9, 0x29, 0x09, 0x49,
        0xC9, 0xC5, 0xE0, 0xE8, 0xCA, 0xC8, 0x88, 0xE6, 0xC6, 0xAA, 0x8A, 0x48, 0x68, 0x18, 0x38, 0xD0, 0xF0,
        0x90, 0xB0, 0x30, 0x10, 0x4C, 0x20, 0x60, 0x40, 0xEA,
    };

    private final Check check = new Check();
    private String name;
    private PictureMachine machine;

    public static void main(String[] args) {
        InstructionsTest test = new InstructionsTest();
        test.loads();
        test.stores();
        test.adds();
        test.compares();
        test.bits();
        test.counts();
        test.stack();
        test.branches();
        test.jumps();
        test.returns();
        test.jams();
        test.wrapsPlaces();
        test.readsCodeFirstAndOperandsLast();
        test.readsRegistersAsCode();
        test.leavesOtherFlags();
        test.check.end();
    }

    private void loads() {
        after("LDA #", 9, 9, 0, 0xA9, 0).takes(2).has(0, 9, Z, AT + 2);
        after("LDA # negative", 9, 9, 1, 0xA9, 128).takes(2).has(128, 9, N | C, AT + 2);
        after("LDA # not negative", 9, 9, 0, 0xA9, 127).takes(2).has(127, 9, 0, AT + 2);
        after("LDA Z", 9, 9, 0, 0xA5, 0x40).poke(0x40, 255).takes(3).has(255, 9, N, AT + 2);
        after("LDA M", 9, 9, 0, 0xAD, 0x34, 0x01).poke(0x134, 7).takes(4).has(7, 9, 0, AT + 3);
        after("LDA X M", 9, 9, 0, 0xBD, 0xFF, 0x00).poke(0x108, 56).takes(4).has(56, 9, 0, AT + 3);
        after("LDA X M over a page", 1, 200, 0, 0xBD, 0x80, 0x00).poke(0x148, 33).takes(4).has(33, 200, 0, AT + 3);
        after("LDA M above the registers", 1, 0, 0, 0xAD, 0x20, 0x03).takes(4).has(255, 0, N, AT + 3);
        after("LDA M modulo 1024", 1, 0, 0, 0xAD, 0x40, 0x04).poke(0x40, 5).takes(4).has(5, 0, 0, AT + 3);
        after("LDA X M modulo 1024", 1, 2, 0, 0xBD, 0xFF, 0xFF).poke(1, 6).takes(4).has(6, 2, 0, AT + 3);
        after("LDX #", 9, 9, 0, 0xA2, 200).takes(2).has(9, 200, N, AT + 2);
        after("LDX Z", 9, 9, 0, 0xA6, 0xFF).poke(0xFF, 0).takes(3).has(9, 0, Z, AT + 2);
        after("LDY #", 9, 9, 0, 0xA0, 0).takes(2).has(9, 9, Z, AT + 2);
        see("Y", machine.processor(Machines.Y), 0);
    }

    private void stores() {
        after("STA Z", 0, 9, 1, 0x85, 0x40).poke(0x40, 1).takes(3).has(0, 9, C, AT + 2);
        see("the byte", machine.peek(0x40), 0);
        after("STA M", 200, 9, 0, 0x8D, 0x34, 0x01).takes(4).has(200, 9, 0, AT + 3);
        see("the byte", machine.peek(0x134), 200);
        after("STA X M", 200, 9, 0, 0x9D, 0xFF, 0x00).takes(5).has(200, 9, 0, AT + 3);
        see("the byte", machine.peek(0x108), 200);
        after("STA X M modulo 1024", 201, 2, 0, 0x9D, 0xFF, 0x03).takes(5).has(201, 2, 0, AT + 3);
        see("the byte", machine.peek(1), 201);
        after("STX M", 1, 200, 0, 0x8E, 0x34, 0x01).takes(4).has(1, 200, 0, AT + 3);
        see("the byte", machine.peek(0x134), 200);
        after("STA M to a register", 44, 0, 0, 0x8D, 0x13, 0x03).takes(4).has(44, 0, 0, AT + 3);
        see("SHAPE 0", machine.state(Machines.SHAPE_0), 44);
        after("STA M above the registers", 44, 0, 0, 0x8D, 0x20, 0x03).takes(4).has(44, 0, 0, AT + 3);
    }

    private void adds() {
        after("ADC #", 5, 0, 0, 0x69, 6).takes(2).has(11, 0, 0, AT + 2);
        after("ADC # with C", 5, 0, 1, 0x69, 6).takes(2).has(12, 0, 0, AT + 2);
        after("ADC # to 255", 200, 0, 0, 0x69, 55).takes(2).has(255, 0, N, AT + 2);
        after("ADC # to 256", 200, 0, 1, 0x69, 55).takes(2).has(0, 0, Z | C, AT + 2);
        after("ADC # most", 255, 0, 1, 0x69, 255).takes(2).has(255, 0, N | C, AT + 2);
        after("ADC Z", 250, 0, 0, 0x65, 0x40).poke(0x40, 16).takes(3).has(10, 0, C, AT + 2);
        after("SBC # with C", 9, 0, 1, 0xE9, 4).takes(2).has(5, 0, C, AT + 2);
        after("SBC # without C", 9, 0, 0, 0xE9, 4).takes(2).has(4, 0, C, AT + 2);
        after("SBC # equal", 9, 0, 1, 0xE9, 9).takes(2).has(0, 0, Z | C, AT + 2);
        after("SBC # below 0", 9, 0, 1, 0xE9, 10).takes(2).has(255, 0, N, AT + 2);
    }

    private void compares() {
        after("CMP # below", 9, 0, 0, 0xC9, 4).takes(2).has(9, 0, C, AT + 2);
        after("CMP # equal", 9, 0, 0, 0xC9, 9).takes(2).has(9, 0, Z | C, AT + 2);
        after("CMP # above", 9, 0, 1, 0xC9, 10).takes(2).has(9, 0, N, AT + 2);
        after("CMP # far above", 9, 0, 1, 0xC9, 200).takes(2).has(9, 0, 0, AT + 2);
        after("CMP # far below", 200, 0, 0, 0xC9, 1).takes(2).has(200, 0, N | C, AT + 2);
        after("CMP Z", 9, 0, 0, 0xC5, 0x40).poke(0x40, 9).takes(3).has(9, 0, Z | C, AT + 2);
        after("CPX # below", 0, 9, 0, 0xE0, 4).takes(2).has(0, 9, C, AT + 2);
        after("CPX # equal", 0, 9, 0, 0xE0, 9).takes(2).has(0, 9, Z | C, AT + 2);
        after("CPX # above", 0, 9, 1, 0xE0, 10).takes(2).has(0, 9, N, AT + 2);
    }

    private void bits() {
        after("AND #", 0xCC, 0, 1, 0x29, 0xAA).takes(2).has(0x88, 0, N | C, AT + 2);
        after("AND # to 0", 0xCC, 0, 0, 0x29, 0x33).takes(2).has(0, 0, Z, AT + 2);
        after("ORA #", 0x4C, 0, 0, 0x09, 0x2A).takes(2).has(0x6E, 0, 0, AT + 2);
        after("ORA # negative", 0x4C, 0, 0, 0x09, 0x80).takes(2).has(0xCC, 0, N, AT + 2);
        after("EOR #", 0xCC, 0, 0, 0x49, 0xAA).takes(2).has(0x66, 0, 0, AT + 2);
        after("EOR # to 0", 0xCC, 0, 1, 0x49, 0xCC).takes(2).has(0, 0, Z | C, AT + 2);
    }

    private void counts() {
        after("INX", 1, 127, 0, 0xE8).takes(2).has(1, 128, N, AT + 1);
        after("INX to 0", 1, 255, 1, 0xE8).takes(2).has(1, 0, Z | C, AT + 1);
        after("DEX", 1, 1, 0, 0xCA).takes(2).has(1, 0, Z, AT + 1);
        after("DEX to 255", 1, 0, 0, 0xCA).takes(2).has(1, 255, N, AT + 1);
        after("INY", 1, 0, 0, 0xC8).takes(2).has(1, 0, 0, AT + 1);
        see("Y", machine.processor(Machines.Y), 6);
        after("DEY", 1, 0, 0, 0x88).takes(2).has(1, 0, 0, AT + 1);
        see("Y", machine.processor(Machines.Y), 4);
        countsY(0xA0, 255, 0xC8, 0, Z);
        countsY(0xA0, 0, 0x88, 255, N);
        after("INC Z", 1, 0, 0, 0xE6, 0x40).poke(0x40, 255).takes(5).has(1, 0, Z, AT + 2);
        see("the byte", machine.peek(0x40), 0);
        after("DEC Z", 1, 0, 1, 0xC6, 0x40).poke(0x40, 0).takes(5).has(1, 0, N | C, AT + 2);
        see("the byte", machine.peek(0x40), 255);
        after("TAX", 200, 0, 0, 0xAA).takes(2).has(200, 200, N, AT + 1);
        after("TXA", 200, 0, 0, 0x8A).takes(2).has(0, 0, Z, AT + 1);
        after("CLC", 1, 0, 1, 0x18).takes(2).has(1, 0, 0, AT + 1);
        after("SEC", 1, 0, 0, 0x38).takes(2).has(1, 0, C, AT + 1);
        after("NOP", 1, 0, 1, 0xEA).takes(2).has(1, 0, C, AT + 1);
    }

    private void countsY(int load, int value, int count, int due, int flags) {
        machine = Machines.withProgram(load, value, count);
        name = "Y counted from " + value;
        machine.run(4);
        see("Y", machine.processor(Machines.Y), due);
        see("flags", machine.processor(Machines.FLAGS), flags);
    }

    private void stack() {
        after("PHA", 0, 9, 1, 0x48).takes(3).has(0, 9, C, AT + 1, 254);
        after("PHA's byte", 77, 9, 1, 0x48).takes(3);
        see("the byte", machine.peek(511), 77);
        after("PLA", 3, 9, 0, 0x68).poke(256, 200).takes(4).has(200, 9, N, AT + 1, 0);
        after("PLA of 0", 3, 9, 0, 0x68).takes(4).has(0, 9, Z, AT + 1, 0);
        machine = Machines.withProgram(0x68, 0xA9, 5, 0x48, 0x48);
        name = "the stack over its end";
        machine.run(9);
        see("S", machine.processor(Machines.S), 255);
        see("the byte at 256", machine.peek(256), 5);
        machine.run(3);
        see("S", machine.processor(Machines.S), 254);
        see("the byte at 511", machine.peek(511), 5);
    }

    private void branches() {
        after("BNE taken", 1, 1, 0, 0xD0, 5).takes(2).has(1, 1, 0, AT + 7);
        after("BEQ not taken", 1, 1, 0, 0xF0, 5).takes(2).has(1, 1, 0, AT + 2);
        after("BCC taken", 1, 1, 0, 0x90, 0x80).takes(2).has(1, 1, 0, AT + 2 - 128);
        after("BCC not taken", 1, 1, 1, 0x90, 5).takes(2).has(1, 1, C, AT + 2);
        after("BCS taken", 1, 1, 1, 0xB0, 0x7F).takes(2).has(1, 1, C, AT + 2 + 127);
        after("BCS not taken", 1, 1, 0, 0xB0, 5).takes(2).has(1, 1, 0, AT + 2);
        after("BMI not taken", 1, 1, 0, 0x30, 5).takes(2).has(1, 1, 0, AT + 2);
        after("BPL taken", 1, 1, 0, 0x10, 0xFF).takes(2).has(1, 1, 0, AT + 1);
        branchAfterLoad("BNE not taken", 0, 0xD0, 516);
        branchAfterLoad("BEQ taken", 0, 0xF0, 520);
        branchAfterLoad("BMI taken", 128, 0x30, 520);
        branchAfterLoad("BPL not taken", 128, 0x10, 516);
    }

    private void branchAfterLoad(String what, int loaded, int code, int place) {
        name = what;
        machine = Machines.withProgram(0xA9, loaded, code, 4);
        machine.run(4);
        see("PC", machine.processor(Machines.PC), place);
    }

    private void jumps() {
        after("JMP", 1, 1, 1, 0x4C, 0x34, 0x01).takes(3).has(1, 1, C, 0x134);
        after("JMP modulo 1024", 1, 1, 1, 0x4C, 0x34, 0xFE).takes(3).has(1, 1, C, 0x234);
        after("JSR", 1, 1, 0, 0x20, 0x34, 0x05).takes(6).has(1, 1, 0, 0x134, 253);
        see("higher byte", machine.peek(511), (AT + 2) >> 8);
        see("lower byte", machine.peek(510), (AT + 2) & 255);
    }

    private void returns() {
        name = "JSR and RTS";
        machine = Machines.withProgram(0x20, 0x10, 0x02, 0xEA);
        machine.poke(0x210, 0x60);
        machine.run(12);
        see("PC", machine.processor(Machines.PC), 515);
        see("S", machine.processor(Machines.S), 255);

        name = "RTS alone";
        machine = Machines.withProgram(0x60);
        Machines.pokeAll(machine, 256, 0xFF, 0xFF);
        machine.run(5);
        see("cycles left", machine.processor(Machines.LEFT), 1);
        machine.run(1);
        see("PC", machine.processor(Machines.PC), 0);
        see("S", machine.processor(Machines.S), 1);

        name = "RTI alone";
        machine = Machines.withProgram(0x40);
        Machines.pokeAll(machine, 256, 0xFF, 0x34, 0x06);
        machine.run(5);
        see("cycles left", machine.processor(Machines.LEFT), 1);
        machine.run(1);
        see("PC", machine.processor(Machines.PC), 0x234);
        see("S", machine.processor(Machines.S), 2);
        see("flags", machine.processor(Machines.FLAGS), N | Z | C);
        int[] pulled = {0, 124, 128, 2, 1};
        int[] flags = {0, 0, N, Z, C};
        for (int i = 0; i < pulled.length; i++) {
            name = "RTI with " + pulled[i];
            machine = Machines.withProgram(0x40);
            machine.poke(256, pulled[i]);
            machine.run(6);
            see("flags", machine.processor(Machines.FLAGS), flags[i]);
        }
    }

    private void jams() {
        boolean[] known = new boolean[256];
        for (int code : CODES) {
            known[code] = true;
        }
        for (int code = 0; code < 256; code++) {
            name = "code " + code;
            machine = Machines.withProgram(code);
            machine.run(1);
            see("jammed after 1", machine.processor(Machines.JAMMED), 0);
            int own = machine.run(1);
            see("cycle 2", own, 1);
            see("jammed", machine.processor(Machines.JAMMED), known[code] ? 0 : 1);
            if (!known[code]) {
                see("PC", machine.processor(Machines.PC), 512);
                see("run(1000)", machine.run(1000), 0);
                see("cycles left", machine.processor(Machines.LEFT), 0);
            }
        }
    }

    private void wrapsPlaces() {
        name = "a branch below 0";
        machine = Machines.withProgram(0x4C, 0x00, 0x00);
        Machines.pokeAll(machine, 0, 0xD0, 0xFC);
        machine.run(5);
        see("PC", machine.processor(Machines.PC), 1022);
        machine.run(2);
        see("jammed by 255", machine.processor(Machines.JAMMED), 1);
        see("PC", machine.processor(Machines.PC), 1022);
    }

    private void readsCodeFirstAndOperandsLast() {
        name = "LDA # poked while it goes on";
        machine = Machines.withProgram(0xA9, 5, 0xEA);
        machine.run(1);
        machine.poke(512, 0xA2);
        machine.poke(513, 6);
        machine.run(1);
        see("A", machine.processor(Machines.A), 6);
        see("X", machine.processor(Machines.X), 0);
        name = "LDA Z poked while it goes on";
        machine = Machines.withProgram(0xA5, 0x40);
        machine.run(2);
        machine.poke(0x40, 9);
        machine.run(1);
        see("A", machine.processor(Machines.A), 9);
    }

    /** A code may be read at a register, where reading does what it does. */
    private void readsRegistersAsCode() {
        name = "code at the stick";
        machine = Machines.withProgram(0x4C, 0x09, 0x03);
        machine.stick(0xA9);
        machine.run(5);
        see("A is what stands behind the stick", machine.processor(Machines.A), 255);
        see("PC", machine.processor(Machines.PC), 779);

        name = "code at the byte that came in";
        machine = Machines.withProgram(0x4C, 0x07, 0x03);
        machine.write(5, 0);
        Machines.sendWithSum(machine, 49, 82, 1);
        machine.run(24);
        see("come in", machine.state(Machines.CAME_IN), 1);
        machine.run(2);
        see("taken", machine.state(Machines.CAME_IN), 0);
    }

    /** A machine that has A, X and C as said, Y = 5, and comes to the bytes at AT after 8 cycles. */
    private InstructionsTest after(String what, int a, int x, int carry, int... bytes) {
        name = what;
        machine = Machines.withProgram(0xA9, a, 0xA2, x, 0xA0, 5, carry == 1 ? 0x38 : 0x18);
        Machines.pokeAll(machine, AT, bytes);
        return this;
    }

    private InstructionsTest poke(int a, int b) {
        machine.poke(a, b);
        return this;
    }

    private InstructionsTest takes(int cycles) {
        machine.run(8);
        see("PC at first", machine.processor(Machines.PC), AT);
        see("cycles left between", machine.processor(Machines.LEFT), 0);
        for (int left = cycles - 1; left >= 0; left--) {
            see("PC as long as it goes on", machine.processor(Machines.PC), AT);
            machine.run(1);
            see("cycles left", machine.processor(Machines.LEFT), left);
        }
        return this;
    }

    private void has(int a, int x, int flags, int place) {
        has(a, x, flags, place, 255);
    }

    private void has(int a, int x, int flags, int place, int stack) {
        see("A", machine.processor(Machines.A), a);
        see("X", machine.processor(Machines.X), x);
        see("flags", machine.processor(Machines.FLAGS), flags);
        see("PC", machine.processor(Machines.PC), place);
        see("S", machine.processor(Machines.S), stack);
    }

    private void see(String what, int got, int want) {
        check.due(name + ": " + what, got, want);
    }

    /** Codes that are not said to set a flag leave it, whatever it is. */
    private void leavesOtherFlags() {
        int[] leaveAll = {0x85, 0x8D, 0x9D, 0x8E, 0x48, 0xD0, 0xF0, 0x90, 0xB0, 0x30, 0x10, 0x4C, 0x20, 0x60, 0xEA};
        int[] leaveCarry = {
            0xA9, 0xA5, 0xAD, 0xBD, 0xA2, 0xA6, 0xA0, 0x29, 0x09, 0x49, 0xE8, 0xCA, 0xC8, 0x88, 0xE6, 0xC6,
            0xAA, 0x8A, 0x68,
        };
        for (int flags : new int[] {0, C, Z, Z | C, N, N | C, N | Z, N | Z | C}) {
            for (int code : leaveAll) {
                check.due("all flags after code " + code, flagsAfter(flags, code), flags);
            }
            for (int code : leaveCarry) {
                check.due("C after code " + code, flagsAfter(flags, code) & C, flags & C);
            }
            check.due("all flags after CLC", flagsAfter(flags, 0x18), flags & ~C);
            check.due("all flags after SEC", flagsAfter(flags, 0x38), flags | C);
        }
    }

    /** The flags behind a code, when RTI has set them before it. */
    private static int flagsAfter(int flags, int code) {
        PictureMachine given = Machines.withProgram(0x40, code, 0x40, 0x00);
        Machines.pokeAll(given, 256, flags, 0x01, 0x02);
        given.run(6);
        do {
            given.run(1);
        } while (given.processor(Machines.LEFT) > 0);
        return given.processor(Machines.FLAGS);
    }
}
