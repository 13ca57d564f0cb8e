/** The boundary cases that the document names for what the display fetches, a test for each sentence. */
public final class EdgesOfFetchesTest {
    public static void main(String[] args) {
        Sentences sentences = new Sentences();
        sentences.holds("if one was said in this line", EdgesOfFetchesTest::takesAnAddressInItsLineOnly);
        sentences.holds("its lower byte being that fetched last", EdgesOfFetchesTest::keepsTheLowerByte);
        sentences.holds("Addresses modulo 1024", EdgesOfFetchesTest::takesAddressesModulo1024);
        sentences.holds("While it rests, lines are blank", EdgesOfFetchesTest::isBlankWhileItRests);
        sentences.holds("Cycles 4, 6, .. 18 in the first row of the modes 2 to 4",
            EdgesOfFetchesTest::fetchesDataOnce);
        sentences.holds("Cycles 5, 7, .. 19 in each row of mode 2", EdgesOfFetchesTest::fetchesLettersInEachRow);
        sentences.holds("256 * LETTERS + 4 * (the lowest 6 bits of byte 0 .. 7) + the row",
            EdgesOfFetchesTest::findsLetters);
        sentences.holds("In all lines: cycles 20 and 21 are taken", EdgesOfFetchesTest::takesTwoCyclesInAllLines);
        sentences.holds("cycle 0: SHAPE 0 becomes the byte at 256 * SHAPES + the line",
            EdgesOfFetchesTest::fetchesShapeZero);
        sentences.holds("cycle 23 SHAPE 1 that at 256 * SHAPES + 16 + the line", EdgesOfFetchesTest::fetchesShapeOne);
        sentences.holds("If CONTROL has bit 1", EdgesOfFetchesTest::fetchesShapesWithBitOneOnly);
        sentences.holds("Fetches read memory only (registers and above: 255): the list",
            EdgesOfFetchesTest::fetchesListsFromMemoryOnly);
        sentences.holds("Fetches read memory only (registers and above: 255): data",
            EdgesOfFetchesTest::fetchesDataFromMemoryOnly);
        sentences.holds("Fetches read memory only (registers and above: 255): letters and shapes",
            EdgesOfFetchesTest::fetchesTheRestFromMemoryOnly);
        sentences.end();
    }

    private static void takesAnAddressInItsLineOnly(Check check) {
        // Off from cycle 2 on: in the next line the mode line goes on without its address.
        PictureMachine machine = Lines.withList(0x40, 0x43, 0x80, 0x01);
        machine.run(2);
        machine.write(0, 0);
        machine.run(22);
        machine.write(0, 1);
        Lines.takes(check, "the line behind it", machine, "pppp" + Lines.DATA + Lines.END);
        check.due("L", machine.state(Machines.L), 0x41);
        check.due("D", machine.state(Machines.D), 8);
        // In the later rows of a mode line none is said.
        machine = Lines.withList(0x40, 0x42, 0x80, 0x01);
        machine.run(24);
        Lines.takes(check, "the second row", machine, "pppp" + Lines.LETTERS + Lines.END);
        check.due("L", machine.state(Machines.L), 0x43);
    }

    private static void keepsTheLowerByte(Check check) {
        // Off in cycle 2 of the second mode line: its lower byte is the first one's.
        PictureMachine machine = Lines.withList(0x40, 0x43, 0x80, 0x00, 0x43, 0x01, 0x02);
        machine.run(26);
        machine.write(0, 0);
        machine.run(1);
        machine.write(0, 1);
        machine.run(1);
        check.due("L", machine.state(Machines.L), 0x45);
        check.due("D", machine.state(Machines.D), 0x180);
        // Off in cycle 3: L has moved on by one, and D stays.
        machine = Lines.withList(0x40, 0x43, 0x80, 0x01);
        machine.run(3);
        machine.write(0, 0);
        machine.run(1);
        check.due("L without the higher byte", machine.state(Machines.L), 0x42);
        check.due("D without the higher byte", machine.state(Machines.D), 0);
    }

    private static void takesAddressesModulo1024(Check check) {
        int[][] addresses = {{0x00, 0x04, 0}, {0xFF, 0xFF, 1023}, {0xFF, 0x03, 1023}, {0x34, 0xFD, 0x134}};
        for (int[] address : addresses) {
            PictureMachine machine = Lines.withList(0x40, 0x44, address[0], address[1]);
            machine.run(4);
            check.due("D", machine.state(Machines.D), address[2]);
            machine = Lines.withList(0x40, 0x01, address[0], address[1]);
            machine.run(4);
            check.due("L", machine.state(Machines.L), address[2]);
        }
    }

    private static void isBlankWhileItRests(Check check) {
        // Before it rests, a row of dots is shown; they are not shown again.
        PictureMachine machine = Lines.withList(0x40, 0x43, 0x80, 0x00, 0x41, 0x40, 0x00);
        Machines.pokeAll(machine, 0x80, 255, 255, 255, 255, 255, 255, 255, 255);
        Machines.runTo(machine, 13, 0);
        Lines.dots(check, "before it rests", machine, 1, 3, 3, 3, 3);
        for (int line = 2; line <= 12; line++) {
            for (int x = 0; x < 32; x += 31) {
                check.due("dot(" + line + ", " + x + ")", machine.dot(line, x), 100);
            }
        }
    }

    private static void fetchesDataOnce(Check check) {
        for (int mode = 2; mode <= 4; mode++) {
            PictureMachine machine = Lines.withList(0x40, mode, 0x05);
            for (int cycle = 0; cycle < 24; cycle++) {
                int fetched = Math.max(0, Math.min(8, (cycle - 3) / 2));
                check.due("D before cycle " + cycle, machine.state(Machines.D), fetched);
                machine.run(1);
            }
            machine.run(24);
            check.due("D in the next line", machine.state(Machines.D), 8);
        }
        PictureMachine machine = Lines.withList(0x40, 0x04, 0x05);
        Lines.takes(check, "the first row", machine, "p.pp" + Lines.DATA + Lines.END);
        Lines.takes(check, "the second row", machine, Lines.NOTHING);
    }

    private static void fetchesLettersInEachRow(Check check) {
        PictureMachine machine = Lines.withList(0x40, 0x42, 0x80, 0x00, 0x05);
        Lines.takes(check, "the first row", machine, "p..." + Lines.BOTH + Lines.END);
        for (int row = 1; row <= 3; row++) {
            // What is shown is the byte of then: the letter changes before each of its rows.
            Machines.pokeAll(machine, row, 0x55 * row);
            Lines.takes(check, "row " + row, machine, "pppp" + Lines.LETTERS + Lines.END);
            Lines.dots(check, "row " + row, machine, 1 + row, row, row, row, row);
            check.due("the last dot of row " + row, machine.dot(1 + row, 31), 100 + row);
        }
        Lines.takes(check, "behind the letters", machine, Lines.MODE_BYTE_ALONE);
        machine = Lines.withList(0x40, 0x03, 0x04);
        Lines.takes(check, "dots have no letters", machine, "p.pp" + Lines.DATA + Lines.END);
    }

    private static void findsLetters(Check check) {
        int[][] letters = {{0, 0}, {63, 252}, {64, 0}, {127, 252}, {192, 0}, {255, 252}, {1, 4}, {65, 4}};
        for (int[] letter : letters) {
            for (int page : new int[] {0, 1, 2, 4, 5, 254}) {
                PictureMachine machine = Lines.withList(0x40, 0x42, 0x80, 0x00, 0x05);
                machine.write(1, page);
                machine.poke(0x80, letter[0]);
                Machines.pokeAll(machine, 256 * (page % 4) + letter[1], 0x1B, 0xE4, 0x55, 0xAA);
                machine.run(24 * 4);
                String what = "letter " + letter[0] + " of page " + page;
                Lines.dots(check, what, machine, 1, 0, 1, 2, 3);
                Lines.dots(check, what, machine, 2, 3, 2, 1, 0);
                Lines.dots(check, what, machine, 3, 1, 1, 1, 1);
                Lines.dots(check, what, machine, 4, 2, 2, 2, 2);
            }
        }
    }

    private static void takesTwoCyclesInAllLines(Check check) {
        PictureMachine machine = Machines.idle();
        for (int line = 0; line < 16; line++) {
            Lines.takes(check, "CONTROL 0", machine, Lines.NOTHING);
        }
    }

    private static void fetchesShapeZero(Check check) {
        for (int shapes : new int[] {1, 5, 253}) {
            PictureMachine machine = Machines.idle();
            for (int i = 0; i < 16; i++) {
                machine.poke(256 + i, 200 + i);
            }
            machine.write(0, 2);
            machine.write(4, shapes);
            for (int line = 0; line < 16; line++) {
                check.due("SHAPE 0 before line " + line, machine.state(Machines.SHAPE_0), line == 0 ? 0 : 199 + line);
                check.due("own in cycle 0", machine.run(1), 0);
                check.due("SHAPE 0 in line " + line, machine.state(Machines.SHAPE_0), 200 + line);
                machine.run(23);
            }
        }
    }

    private static void fetchesShapeOne(Check check) {
        for (int shapes : new int[] {1, 5, 253}) {
            PictureMachine machine = Machines.idle();
            for (int i = 0; i < 16; i++) {
                machine.poke(256 + 16 + i, 220 + i);
            }
            machine.write(0, 2);
            machine.write(4, shapes);
            for (int line = 0; line < 16; line++) {
                machine.run(23);
                check.due("SHAPE 1 before cycle 23", machine.state(Machines.SHAPE_1), line == 0 ? 0 : 219 + line);
                check.due("own in cycle 23", machine.run(1), 0);
                check.due("SHAPE 1 of line " + line, machine.state(Machines.SHAPE_1), 220 + line);
            }
        }
        // It is fetched before the line is drawn.
        PictureMachine machine = Machines.idle();
        machine.poke(17, 128);
        machine.write(0, 2);
        machine.write(13, 60);
        Machines.runTo(machine, 2, 0);
        check.due("dot(1, 0)", machine.dot(1, 0), 60);
    }

    private static void fetchesShapesWithBitOneOnly(Check check) {
        for (int control : new int[] {0, 1, 4, 253}) {
            PictureMachine machine = Machines.idle();
            machine.write(19, 9);
            machine.write(20, 8);
            machine.write(0, control);
            check.due("own in cycle 0, CONTROL " + control, machine.run(1), 1);
            Machines.runTo(machine, 0, 23);
            check.due("own in cycle 23, CONTROL " + control, machine.run(1), 1);
            check.due("SHAPE 0", machine.state(Machines.SHAPE_0), 9);
            check.due("SHAPE 1", machine.state(Machines.SHAPE_1), 8);
        }
    }

    /** A machine with the list at a register or above, in line 1: a byte has come in, the timer's sign is set once. */
    private static PictureMachine withListAbove(int at) {
        PictureMachine machine = Lines.withList(0x40, 0x70);
        Machines.sendWithSum(machine, 49, 82, 1);
        machine.write(2, at & 255);
        machine.write(3, at >> 8);
        machine.run(384);
        machine.write(21, 255);
        return machine;
    }

    private static void fetchesListsFromMemoryOnly(Check check) {
        for (int at : new int[] {768, 768 + 6, 768 + 7, 768 + 9, 799, 800, 1023}) {
            PictureMachine machine = withListAbove(at);
            machine.run(2);
            check.due("the mode at " + at, machine.state(Machines.MODE), 15);
            check.due("come in", machine.state(Machines.CAME_IN), 1);
            check.due("the timer's sign", machine.state(Machines.SIGN), 1);
        }
        // The bytes 766 and 767 are memory; the list goes on at 512 behind them.
        PictureMachine machine = Lines.withList(766, 0x05, 0x06);
        machine.run(2);
        check.due("the mode at 766", machine.state(Machines.MODE), 5);
        machine.run(24);
        check.due("the mode at 767", machine.state(Machines.MODE), 6);
    }

    private static void fetchesDataFromMemoryOnly(Check check) {
        for (int at : new int[] {768, 776, 792, 800, 1016}) {
            PictureMachine machine = Lines.withList(0x40, 0x43, at & 255, at >> 8);
            machine.stick(0);
            Machines.sendWithSum(machine, 49, 82, 1);
            machine.run(24);
            for (int x = 0; x < 32; x++) {
                check.due("data at " + at + ": dot(1, " + x + ")", machine.dot(1, x), 103);
            }
        }
        PictureMachine machine = Lines.withList(0x40, 0x43, 0xF8, 0x02);
        machine.poke(767, 0x1B);
        machine.run(24);
        check.due("the last byte of memory: dot(1, 29)", machine.dot(1, 29), 101);
    }

    private static void fetchesTheRestFromMemoryOnly(Check check) {
        for (int page : new int[] {3, 7, 255}) {
            PictureMachine machine = Lines.withList(0x40, 0x42, 0x80, 0x00, 0x05);
            machine.write(1, page);
            machine.write(4, page);
            machine.write(0, 3);
            machine.write(14, 32);
            machine.write(15, 32);
            machine.poke(0x87, 63);
            machine.run(1);
            check.due("SHAPE 0", machine.state(Machines.SHAPE_0), 255);
            machine.run(23);
            check.due("SHAPE 1", machine.state(Machines.SHAPE_1), 255);
            for (int x = 0; x < 32; x++) {
                check.due("letters of page " + page + ": dot(1, " + x + ")", machine.dot(1, x), 103);
            }
        }
    }
}
