/** The boundary cases that the document names for the processor, a test for each sentence. */
public final class EdgesOfProcessorTest {
    private static final int N = 128;
    private static final int Z = 2;
    private static final int C = 1;

    public static void main(String[] args) {
        Sentences sentences = new Sentences();
        sentences.holds("At first A, X, Y are 0, S is 255, PC is 512, no flag is set",
            EdgesOfProcessorTest::beginsAsSaid);
        sentences.holds("a place PC (modulo 1024): below 0", EdgesOfProcessorTest::branchesBelowZero);
        sentences.holds("a place PC (modulo 1024): where JMP, JSR and RTI go to",
            EdgesOfProcessorTest::jumpsModulo1024);
        sentences.holds("in its first cycle, the byte at PC is read", EdgesOfProcessorTest::readsTheCodeFirst);
        sentences.holds("In the last of them it is done as a whole", EdgesOfProcessorTest::readsTheRestLast);
        sentences.holds("Whatever is read at a register does what reading it does: a code",
            EdgesOfProcessorTest::readsCodesAtRegisters);
        sentences.holds("Whatever is read at a register does what reading it does: the bytes behind a code",
            EdgesOfProcessorTest::readsBehindCodesAtRegisters);
        sentences.holds("the bytes behind its code are read then: of a branch that is not taken, too",
            EdgesOfProcessorTest::readsBehindBranches);
        sentences.holds("the bytes behind its code are read then, in their order, and what it does follows",
            EdgesOfProcessorTest::readsBeforeItPushes);
        sentences.holds("Z the memory at that byte (0 .. 255)", EdgesOfProcessorTest::zeroPageHasItsEnds);
        sentences.holds("X M that at the address + X", EdgesOfProcessorTest::indexedAddressesGoOverPages);
        sentences.holds("PC behind it + # taken with its sign", EdgesOfProcessorTest::branchesBothWays);
        sentences.holds("JSR: the place of its last byte is pushed, the higher byte first",
            EdgesOfProcessorTest::pushesThePlaceOfTheLastByte);
        sentences.holds("RTS: lower byte pulled first; to that + 1", EdgesOfProcessorTest::returnsBehindThePlace);
        sentences.holds("RTI: flags pulled, then a place as by RTS, without + 1",
            EdgesOfProcessorTest::returnsToThePlace);
        sentences.holds("Every other code: JAMMED after 2 cycles", EdgesOfProcessorTest::jamsAfterTwoCycles);
        sentences.holds("JAMMED [..] for good; PC stays there", EdgesOfProcessorTest::jamsForGood);
        sentences.holds("N and Z are set by the result (bit 7; 0)", EdgesOfProcessorTest::setsNAndZ);
        sentences.holds("the four on X and Y: modulo 256", EdgesOfProcessorTest::countsXAndYOverTheirEnds);
        sentences.holds("INC, DEC: modulo 256", EdgesOfProcessorTest::countsMemoryOverItsEnds);
        sentences.holds("ADC: A + it + C, C the carry", EdgesOfProcessorTest::addsWithCarry);
        sentences.holds("SBC: A + (255 - it) + C likewise", EdgesOfProcessorTest::subtractsWithCarry);
        sentences.holds("CMP, CPX: N, Z of the difference, C if it is not above the register",
            EdgesOfProcessorTest::compares);
        sentences.holds("S one less (modulo 256)", EdgesOfProcessorTest::pushesOverTheEndOfTheStack);
        sentences.holds("S one less (modulo 256): and one more to pull",
            EdgesOfProcessorTest::pullsOverTheEndOfTheStack);
        sentences.holds("S one less (modulo 256): JSR and RTS", EdgesOfProcessorTest::callsOverTheEndOfTheStack);
        sentences.holds("S one less (modulo 256): NMI and RTI", EdgesOfProcessorTest::entersOverTheEndOfTheStack);
        sentences.holds("Flags as a byte: 128 N, 2 Z, 1 C", EdgesOfProcessorTest::flagsAreAByte);
        sentences.holds("NMI: when one is REQUESTED and an instruction would begin, instead 7 cycles pass",
            EdgesOfProcessorTest::anNmiHasSevenCycles);
        sentences.holds("PC is 256 * memory (761) + memory (760)", EdgesOfProcessorTest::anNmiGoesModulo1024);
        sentences.holds("and it is requested no more", EdgesOfProcessorTest::anNmiIsRequestedNoMore);
        sentences.end();
    }

    private static PictureMachine after(int cycles, int... program) {
        PictureMachine machine = Machines.withProgram(program);
        machine.run(cycles);
        return machine;
    }

    private static void registers(Check check, String what, PictureMachine machine, int a, int flags) {
        check.due(what + ": A", machine.processor(Machines.A), a);
        check.due(what + ": flags", machine.processor(Machines.FLAGS), flags);
    }

    private static void place(Check check, String what, PictureMachine machine, int place) {
        check.due(what + ": PC", machine.processor(Machines.PC), place);
    }

    private static void beginsAsSaid(Check check) {
        int[] due = {512, 0, 0, 0, 255, 0};
        PictureMachine machine = new PictureMachine();
        for (int what = 0; what < due.length; what++) {
            check.due("processor(" + what + ")", machine.processor(what), due[what]);
        }
    }

    private static void branchesBelowZero(Check check) {
        PictureMachine machine = Machines.withProgram(0x4C, 0x00, 0x00);
        Machines.pokeAll(machine, 0, 0x10, 0xFD);
        machine.run(5);
        place(check, "BPL from 2 to - 1", machine, 1023);
        machine = Machines.withProgram(0x4C, 0x00, 0x00);
        Machines.pokeAll(machine, 0, 0x10, 0xFE);
        machine.run(5);
        place(check, "BPL from 2 to 0", machine, 0);
        machine = Machines.withProgram(0x4C, 0x00, 0x00);
        Machines.pokeAll(machine, 0, 0x10, 0x80);
        machine.run(5);
        place(check, "BPL from 2 to - 126", machine, 898);
    }

    private static void jumpsModulo1024(Check check) {
        place(check, "JMP 1024", after(3, 0x4C, 0x00, 0x04), 0);
        place(check, "JMP 65535", after(3, 0x4C, 0xFF, 0xFF), 1023);
        place(check, "JMP 1023", after(3, 0x4C, 0xFF, 0x03), 1023);
        place(check, "JSR 1024 + 1", after(6, 0x20, 0x01, 0x04), 1);
        place(check, "JSR 65535", after(6, 0x20, 0xFF, 0xFF), 1023);
        PictureMachine machine = Machines.withProgram(0x40);
        Machines.pokeAll(machine, 256, 0, 0x02, 0x04);
        machine.run(6);
        place(check, "RTI to 1024 + 2", machine, 2);
    }

    private static void readsTheCodeFirst(Check check) {
        PictureMachine machine = after(1, 0xA9, 5);
        machine.poke(512, 0xA2);
        machine.run(1);
        check.due("A, its code changed after the first cycle", machine.processor(Machines.A), 5);
        machine = Machines.withProgram(0xA9, 5);
        machine.run(0);
        machine.poke(512, 0xA2);
        machine.run(2);
        check.due("X, its code changed before it", machine.processor(Machines.X), 5);
    }

    private static void readsTheRestLast(Check check) {
        PictureMachine machine = after(5, 0x20, 0x34, 0x01);
        place(check, "JSR before its last cycle", machine, 512);
        check.due("S before it", machine.processor(Machines.S), 255);
        machine.poke(513, 0x35);
        machine.run(1);
        place(check, "JSR, its address changed before it", machine, 0x135);
        machine = after(4, 0xE6, 0x40);
        check.due("INC before its last cycle", machine.peek(0x40), 0);
        machine.poke(0x40, 8);
        machine.run(1);
        check.due("INC, its byte changed before it", machine.peek(0x40), 9);
    }

    private static void readsCodesAtRegisters(Check check) {
        // The stick is LDA #, the byte behind it no register that is read.
        PictureMachine machine = Machines.withProgram(0x4C, 0x09, 0x03);
        machine.stick(0xA9);
        machine.run(5);
        registers(check, "LDA # at the stick", machine, 255, N);
        place(check, "LDA # at the stick", machine, 779);
        // JSR: its address is 255 twice, the place of its last byte 779.
        machine = Machines.withProgram(0x4C, 0x09, 0x03);
        machine.stick(0x20);
        machine.run(9);
        place(check, "JSR at the stick", machine, 1023);
        check.due("higher byte of 779", machine.peek(511), 3);
        check.due("lower byte of 779", machine.peek(510), 11);
        // 65 came in, which jams, but is taken.
        machine = Machines.withProgram(0x4C, 0x07, 0x03);
        machine.write(5, 0);
        Machines.sendWithSum(machine, 49, 82, 1);
        Machines.runTo(machine, 1, 1);
        check.due("come in before its code is read", machine.state(Machines.CAME_IN), 1);
        machine.run(1);
        check.due("come in after its code was read", machine.state(Machines.CAME_IN), 0);
    }

    private static void readsBehindCodesAtRegisters(Check check) {
        // After 35 cycles CHANCE is ORA #; behind it is the timer's sign.
        PictureMachine machine = new PictureMachine();
        Machines.pokeNops(machine, 512, 15);
        Machines.pokeAll(machine, 527, 0x4C, 0x05, 0x03);
        machine.write(21, 30);
        machine.write(22, 0);
        machine.run(36);
        check.due("the sign before it is read", machine.state(Machines.SIGN), 1);
        machine.run(1);
        check.due("the sign as read", machine.processor(Machines.A), 1);
        check.due("the sign after it", machine.state(Machines.SIGN), 0);
        place(check, "behind the sign", machine, 775);
        // After 102 cycles it is LDA M; the address is the sign, 1, and the byte that came in, 65: 257 modulo 1024.
        machine = Machines.withProgram(0xA5, 0x40);
        Machines.pokeNops(machine, 514, 44);
        Machines.pokeAll(machine, 558, 0x4C, 0x05, 0x03);
        machine.poke(257, 99);
        machine.write(21, 90);
        machine.write(22, 0);
        Machines.sendWithSum(machine, 49, 82, 1);
        machine.run(105);
        check.due("come in before it is read", machine.state(Machines.CAME_IN), 1);
        machine.run(1);
        check.due("the byte at the address", machine.processor(Machines.A), 99);
        check.due("come in after it", machine.state(Machines.CAME_IN), 0);
        check.due("the sign after it", machine.state(Machines.SIGN), 0);
    }

    private static void readsBehindBranches(Check check) {
        // CHANCE is BNE after 366 cycles, BCS after 680; behind it is the timer's sign, 1.
        branchesAtChance(check, "BNE, taken", 365, 776);
        branchesAtChance(check, "BCS, not taken", 679, 775);
    }

    private static void branchesAtChance(Check check, String what, int cycles, int due) {
        PictureMachine machine = Machines.withProgram(0x4C, 0x00, 0x02);
        machine.write(21, 255);
        machine.run(cycles);
        Machines.pokeAll(machine, 513, 0x05, 0x03);
        machine.run(2);
        check.due(what + ": the sign before it is read", machine.state(Machines.SIGN), 1);
        machine.run(1);
        check.due(what + ": the sign after it", machine.state(Machines.SIGN), 0);
        place(check, what, machine, due);
    }

    private static void readsBeforeItPushes(Check check) {
        // What JSR pushes goes to its own two bytes.
        PictureMachine machine = Machines.withProgram(0x4C, 0xFD, 0x01);
        Machines.pokeAll(machine, 0x1FD, 0x20, 0x34, 0x02);
        machine.run(9);
        place(check, "JSR with its address on the stack", machine, 0x234);
        check.due("lower byte of its last byte's place", machine.peek(0x1FE), 0xFF);
        check.due("higher byte of its last byte's place", machine.peek(0x1FF), 0x01);
    }

    private static void zeroPageHasItsEnds(Check check) {
        for (int at : new int[] {0, 255}) {
            PictureMachine machine = Machines.withProgram(0xA5, at, 0xA6, at, 0xE6, at, 0xE6, at, 0xC6, at);
            machine.poke(at, 200);
            machine.run(3 + 3 + 5 + 5);
            check.due("LDA Z " + at, machine.processor(Machines.A), 200);
            check.due("LDX Z " + at, machine.processor(Machines.X), 200);
            check.due("INC Z " + at, machine.peek(at), 202);
            machine.run(7);
            check.due("DEC Z " + at, machine.peek(at), 201);
            check.due("STA Z " + at, after(5, 0xA9, 9, 0x85, at).peek(at), 9);
        }
    }

    private static void indexedAddressesGoOverPages(Check check) {
        PictureMachine machine = Machines.withProgram(0xA2, 255, 0xBD, 0xFF, 0x00);
        machine.poke(0x1FE, 44);
        machine.run(6);
        check.due("LDA 255 + X, X = 255", machine.processor(Machines.A), 44);
        machine = Machines.withProgram(0xA2, 0, 0xBD, 0xFF, 0x00);
        machine.poke(0xFF, 45);
        machine.run(6);
        check.due("LDA 255 + X, X = 0", machine.processor(Machines.A), 45);
        check.due("STA 255 + X, X = 1", after(9, 0xA9, 46, 0xA2, 1, 0x9D, 0xFF, 0x00).peek(256), 46);
    }

    private static void branchesBothWays(Check check) {
        int[] distances = {0, 1, 127, 128, 254, 255};
        int[] places = {514, 515, 641, 386, 512, 513};
        for (int i = 0; i < distances.length; i++) {
            place(check, "BNE " + distances[i], after(2, 0xD0, distances[i]), places[i]);
            place(check, "BEQ " + distances[i] + ", not taken", after(2, 0xF0, distances[i]), 514);
        }
    }

    private static void pushesThePlaceOfTheLastByte(Check check) {
        PictureMachine machine = after(6, 0x20, 0x00, 0x01);
        check.due("higher byte of 514, at 511", machine.peek(511), 2);
        check.due("lower byte of 514, at 510", machine.peek(510), 2);
        // The last byte of JSR at 0xFE is the first of the next page.
        machine = Machines.withProgram(0x4C, 0xFE, 0x00);
        Machines.pokeAll(machine, 0xFE, 0x20, 0x34, 0x02);
        machine.run(9);
        check.due("higher byte of 256", machine.peek(511), 1);
        check.due("lower byte of 256", machine.peek(510), 0);
    }

    private static void returnsBehindThePlace(Check check) {
        int[][] pulled = {
            {0x33, 0x01, 0x134}, {0xFF, 0x01, 0x200}, {0xFF, 0x03, 0}, {0xFF, 0xFF, 0}, {0xFF, 0x00, 256},
        };
        for (int[] bytes : pulled) {
            PictureMachine machine = Machines.withProgram(0x60);
            Machines.pokeAll(machine, 256, bytes[0], bytes[1]);
            machine.run(6);
            place(check, "RTS with " + bytes[0] + " and " + bytes[1], machine, bytes[2]);
        }
    }

    private static void returnsToThePlace(Check check) {
        int[][] pulled = {{0x33, 0x01, 0x133}, {0xFF, 0x01, 0x1FF}, {0xFF, 0x03, 1023}, {0xFF, 0xFF, 1023}};
        for (int[] bytes : pulled) {
            PictureMachine machine = Machines.withProgram(0x40);
            Machines.pokeAll(machine, 256, 124, bytes[0], bytes[1]);
            machine.run(6);
            place(check, "RTI with " + bytes[0] + " and " + bytes[1], machine, bytes[2]);
            check.due("flags of 124", machine.processor(Machines.FLAGS), 0);
        }
    }

    private static void jamsAfterTwoCycles(Check check) {
        for (int code : new int[] {0x00, 0x02, 0x08, 0x78, 0x80, 0xFF}) {
            PictureMachine machine = after(1, code);
            check.due("jammed after 1 by " + code, machine.processor(Machines.JAMMED), 0);
            check.due("cycles left", machine.processor(Machines.LEFT), 1);
            check.due("own in the second", machine.run(1), 1);
            check.due("jammed after 2 by " + code, machine.processor(Machines.JAMMED), 1);
            check.due("cycles left", machine.processor(Machines.LEFT), 0);
        }
    }

    private static void jamsForGood(Check check) {
        PictureMachine machine = after(4, 0xEA, 0xFF, 0xEA);
        place(check, "jammed", machine, 513);
        machine.poke(513, 0xEA);
        machine.write(6, 64);
        machine.write(5, 0);
        check.due("own in 1000 cycles, with an NMI requested", machine.run(1000), 0);
        check.due("the NMI is requested", machine.processor(Machines.REQUESTED), 1);
        check.due("jammed", machine.processor(Machines.JAMMED), 1);
        place(check, "jammed later", machine, 513);
        // At the last place of all, the one behind it being 0.
        machine = after(5, 0x4C, 0xFF, 0x03);
        place(check, "jammed at 1023", machine, 1023);
    }

    private static void setsNAndZ(Check check) {
        int[] values = {0, 1, 127, 128, 255};
        int[] flags = {Z, 0, 0, N, N};
        for (int i = 0; i < values.length; i++) {
            int v = values[i];
            registers(check, "LDA #", after(2, 0xA9, v), v, flags[i]);
            registers(check, "LDX #", after(2, 0xA2, v), 0, flags[i]);
            registers(check, "LDY #", after(2, 0xA0, v), 0, flags[i]);
            registers(check, "ADC #", after(2, 0x69, v), v, flags[i]);
            registers(check, "AND #", after(4, 0xA9, 255, 0x29, v), v, flags[i]);
            registers(check, "ORA #", after(2, 0x09, v), v, flags[i]);
            registers(check, "EOR #", after(2, 0x49, v), v, flags[i]);
            registers(check, "TXA", after(6, 0xA2, v, 0xA0, 5, 0x8A), v, flags[i]);
            registers(check, "TAX", after(6, 0xA9, v, 0xA0, 5, 0xAA), v, flags[i]);
            registers(check, "PLA", after(11, 0xA9, v, 0x48, 0xA9, 5, 0x68), v, flags[i]);
            registers(check, "SBC #", after(6, 0xA9, v, 0x38, 0xE9, 0), v, flags[i] | C);
            registers(check, "INC Z", after(10, 0xA9, v - 1 & 255, 0x85, 0x40, 0xE6, 0x40), v - 1 & 255, flags[i]);
            registers(check, "DEC Z", after(10, 0xA9, v + 1 & 255, 0x85, 0x40, 0xC6, 0x40), v + 1 & 255, flags[i]);
        }
    }

    private static void countsXAndYOverTheirEnds(Check check) {
        PictureMachine machine = after(4, 0xA2, 255, 0xE8);
        check.due("INX at 255", machine.processor(Machines.X), 0);
        check.due("flags", machine.processor(Machines.FLAGS), Z);
        machine = after(2, 0xCA);
        check.due("DEX at 0", machine.processor(Machines.X), 255);
        check.due("flags", machine.processor(Machines.FLAGS), N);
        machine = after(4, 0xA0, 255, 0xC8);
        check.due("INY at 255", machine.processor(Machines.Y), 0);
        check.due("flags", machine.processor(Machines.FLAGS), Z);
        machine = after(2, 0x88);
        check.due("DEY at 0", machine.processor(Machines.Y), 255);
        check.due("flags", machine.processor(Machines.FLAGS), N);
    }

    private static void countsMemoryOverItsEnds(Check check) {
        PictureMachine machine = Machines.withProgram(0x38, 0xE6, 0x40);
        machine.poke(0x40, 255);
        machine.run(7);
        check.due("INC at 255", machine.peek(0x40), 0);
        check.due("flags", machine.processor(Machines.FLAGS), Z | C);
        machine = after(5, 0xC6, 0x40);
        check.due("DEC at 0", machine.peek(0x40), 255);
        check.due("flags", machine.processor(Machines.FLAGS), N);
    }

    private static void addsWithCarry(Check check) {
        registers(check, "254 + 1", after(4, 0xA9, 254, 0x69, 1), 255, N);
        registers(check, "255 + 1", after(4, 0xA9, 255, 0x69, 1), 0, Z | C);
        registers(check, "254 + 1 + C", after(6, 0xA9, 254, 0x38, 0x69, 1), 0, Z | C);
        registers(check, "255 + 255 + C", after(6, 0xA9, 255, 0x38, 0x69, 255), 255, N | C);
        registers(check, "255 + 0 + C", after(6, 0xA9, 255, 0x38, 0x69, 0), 0, Z | C);
        registers(check, "1 + 1 takes C away", after(6, 0xA9, 1, 0x38, 0x69, 1), 3, 0);
        PictureMachine machine = Machines.withProgram(0xA9, 255, 0x65, 0x40);
        machine.poke(0x40, 1);
        machine.run(5);
        registers(check, "255 + 1 by Z", machine, 0, Z | C);
    }

    private static void subtractsWithCarry(Check check) {
        registers(check, "0 - 0, C", after(6, 0xA9, 0, 0x38, 0xE9, 0), 0, Z | C);
        registers(check, "0 - 0, no C", after(4, 0xA9, 0, 0xE9, 0), 255, N);
        registers(check, "0 - 1, C", after(6, 0xA9, 0, 0x38, 0xE9, 1), 255, N);
        registers(check, "0 - 255, no C", after(4, 0xA9, 0, 0xE9, 255), 0, Z);
        registers(check, "255 - 255, C", after(6, 0xA9, 255, 0x38, 0xE9, 255), 0, Z | C);
        registers(check, "255 - 0, C", after(6, 0xA9, 255, 0x38, 0xE9, 0), 255, N | C);
    }

    private static void compares(Check check) {
        int[][] rows = {
            {5, 5, Z | C}, {5, 6, N}, {5, 4, C}, {0, 0, Z | C}, {0, 255, 0}, {255, 0, N | C}, {255, 255, Z | C},
            {0, 128, N}, {0, 129, 0}, {127, 255, N}, {128, 0, N | C}, {128, 1, C},
        };
        for (int[] row : rows) {
            String what = row[0] + " and " + row[1];
            registers(check, "CMP # of " + what, after(4, 0xA9, row[0], 0xC9, row[1]), row[0], row[2]);
            registers(check, "CPX # of " + what, after(4, 0xA2, row[0], 0xE0, row[1]), 0, row[2]);
            PictureMachine machine = Machines.withProgram(0xA9, row[0], 0xC5, 0x40);
            machine.poke(0x40, row[1]);
            machine.run(5);
            registers(check, "CMP Z of " + what, machine, row[0], row[2]);
        }
        registers(check, "CMP # above takes C away", after(6, 0xA9, 5, 0x38, 0xC9, 6), 5, N);
    }

    private static void stack(Check check, String what, PictureMachine machine, int s) {
        check.due(what + ": S", machine.processor(Machines.S), s);
    }

    private static void pushesOverTheEndOfTheStack(Check check) {
        // PLA brings S to 0.
        PictureMachine machine = after(4, 0x68, 0xA9, 77, 0x48, 0x48);
        stack(check, "before", machine, 0);
        machine.run(5);
        stack(check, "pushed at 0", machine, 255);
        check.due("peek(256)", machine.peek(256), 77);
        check.due("peek(511) yet", machine.peek(511), 0);
        check.due("peek(255)", machine.peek(255), 0);
        machine.run(3);
        stack(check, "pushed at 255", machine, 254);
        check.due("peek(511)", machine.peek(511), 77);
    }

    private static void pullsOverTheEndOfTheStack(Check check) {
        PictureMachine machine = Machines.withProgram(0x68, 0x68);
        Machines.pokeAll(machine, 256, 33, 34);
        machine.run(4);
        stack(check, "pulled at 255", machine, 0);
        check.due("A of 256", machine.processor(Machines.A), 33);
        machine.run(4);
        stack(check, "pulled at 0", machine, 1);
        check.due("A of 257", machine.processor(Machines.A), 34);
    }

    private static void callsOverTheEndOfTheStack(Check check) {
        // The place of JSR's last byte is 515.
        PictureMachine machine = Machines.withProgram(0x68, 0x20, 0x80, 0x00);
        machine.poke(0x80, 0x60);
        machine.run(10);
        stack(check, "JSR at 0", machine, 254);
        check.due("higher byte at 256", machine.peek(256), 2);
        check.due("lower byte at 511", machine.peek(511), 3);
        machine.run(6);
        stack(check, "RTS at 254", machine, 0);
        place(check, "RTS at 254", machine, 516);
    }

    private static void entersOverTheEndOfTheStack(Check check) {
        // PLA twice brings S to 1; behind SEC the loop is at 515.
        PictureMachine machine = Machines.withProgram(0x68, 0x68, 0x38, 0x4C, 0x03, 0x02);
        machine.poke(760, 0x80);
        machine.poke(0x80, 0x40);
        machine.write(6, 64);
        Machines.runTo(machine, 13, 8);
        for (int i = 0; i < 14 && machine.processor(Machines.PC) != 0x80; i++) {
            machine.run(1);
        }
        stack(check, "NMI at 1", machine, 254);
        check.due("higher byte at 257", machine.peek(257), 2);
        check.due("lower byte at 256", machine.peek(256), 3);
        check.due("flags at 511", machine.peek(511), Z | C);
        machine.write(5, 0);
        Machines.runTo(machine, 14, 4);
        stack(check, "RTI at 254", machine, 1);
        place(check, "RTI at 254", machine, 515);
    }

    private static void flagsAreAByte(Check check) {
        registers(check, "N and C", after(4, 0x38, 0xA9, 200), 200, 129);
        registers(check, "Z and C", after(4, 0x38, 0xA9, 0), 0, 3);
        int[] pulled = {255, 131, 124, 128, 2, 1, 64, 4};
        for (int flags : pulled) {
            PictureMachine machine = Machines.withProgram(0x40);
            machine.poke(256, flags);
            machine.run(6);
            check.due("flags of " + flags, machine.processor(Machines.FLAGS), flags & 131);
        }
    }

    /** A machine whose processor is between two instructions in line 13, cycle 22, with an NMI requested. */
    private static PictureMachine requested(int lower, int higher) {
        PictureMachine machine = Machines.idle();
        Machines.pokeAll(machine, 760, lower, higher);
        machine.write(6, 64);
        Machines.runTo(machine, 13, 0);
        for (int i = 0; i < 3 && machine.processor(Machines.LEFT) != 0; i++) {
            machine.run(1);
        }
        machine.write(5, 0);
        Machines.runTo(machine, 13, 22);
        return machine;
    }

    private static void anNmiHasSevenCycles(Check check) {
        PictureMachine machine = requested(0x80, 0x00);
        machine.poke(0x80, 0xEA);
        check.due("own of the first six", machine.run(6), 6);
        check.due("cycles left", machine.processor(Machines.LEFT), 1);
        stack(check, "before the last", machine, 255);
        check.due("PC before the last is where it was", machine.processor(Machines.PC) >> 8, 2);
        check.due("own of the last", machine.run(1), 1);
        check.due("cycles left", machine.processor(Machines.LEFT), 0);
        stack(check, "after the last", machine, 252);
        place(check, "after the last", machine, 0x80);
    }

    private static void anNmiGoesModulo1024(Check check) {
        int[][] places = {{0xFF, 0xFF, 1023}, {0x00, 0x04, 0}, {0x34, 0x05, 0x134}, {0xFF, 0x03, 1023}, {0, 0, 0}};
        for (int[] bytes : places) {
            PictureMachine machine = requested(bytes[0], bytes[1]);
            machine.run(7);
            place(check, "NMI with " + bytes[0] + " and " + bytes[1], machine, bytes[2]);
        }
    }

    private static void anNmiIsRequestedNoMore(Check check) {
        PictureMachine machine = requested(0x80, 0x00);
        Machines.pokeAll(machine, 0x80, 0x4C, 0x80, 0x00);
        machine.run(6);
        check.due("requested before the last", machine.processor(Machines.REQUESTED), 1);
        machine.run(1);
        check.due("requested after the last", machine.processor(Machines.REQUESTED), 0);
        machine.run(300);
        stack(check, "no second one", machine, 252);
    }
}
