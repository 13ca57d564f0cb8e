/** The display: its list, its modes, and which cycles it takes (in the terms before promise 1). */
public final class ListTest {
    private final Check check = new Check();

    public static void main(String[] args) {
        ListTest test = new ListTest();
        test.takesNothingWithoutControl();
        test.takesShapes();
        test.fetchesShapes();
        test.takesLetters();
        test.takesDots();
        test.takesBlankRows();
        test.otherModesAreOneBlankRow();
        test.jumps();
        test.rests();
        test.movesOnInItsPage();
        test.fetchesMemoryOnly();
        test.showsLetters();
        test.showsTwoRowsOfDots();
        test.keepsDataPlaceFromLineToLine();
        test.beginsAnewInEachFrame();
        test.stopsWithoutControl();
        test.addressNeedsItsOwnLine();
        test.keepsTheLowerByteFetchedLast();
        test.showsWhatWasFetchedBefore();
        test.check.end();
    }

    private void lineTakes(String what, PictureMachine machine, String due) {
        Lines.takes(check, what, machine, due);
    }

    private void dots(String what, PictureMachine machine, int y, int... due) {
        Lines.dots(check, what, machine, y, due);
    }

    private void takesNothingWithoutControl() {
        PictureMachine machine = Lines.withList(0x40, 0x42, 0x00, 0x01);
        machine.write(0, 252);
        for (int line = 1; line < 16; line++) {
            lineTakes("CONTROL 252", machine, Lines.NOTHING);
        }
        lineTakes("CONTROL 252", machine, Lines.NOTHING);
    }

    private void takesShapes() {
        PictureMachine machine = Lines.withList(0x40, 0x70, 0x70);
        machine.write(0, 2);
        for (int line = 1; line < 17; line++) {
            lineTakes("CONTROL 2", machine, ".ppp" + Lines.NO_DATA + "..p.");
        }
        machine.write(0, 3);
        lineTakes("CONTROL 3", machine, "..pp" + Lines.NO_DATA + "..p.");
        lineTakes("CONTROL 3", machine, ".ppp" + Lines.NO_DATA + "..p.");
    }

    private void fetchesShapes() {
        PictureMachine machine = Machines.idle();
        for (int i = 0; i < 32; i++) {
            machine.poke(256 + i, 100 + i);
        }
        machine.write(0, 2);
        machine.write(4, 0xFD);
        for (int line = 0; line < 16; line++) {
            machine.run(1);
            check.due("SHAPE 0 in line " + line, machine.state(Machines.SHAPE_0), 100 + line);
            machine.run(22);
            check.due("SHAPE 1 before cycle 23", machine.state(Machines.SHAPE_1), line == 0 ? 0 : 115 + line);
            machine.run(1);
            check.due("SHAPE 1 in line " + line, machine.state(Machines.SHAPE_1), 116 + line);
        }
        machine.write(4, 3);
        machine.run(24);
        check.due("SHAPE 0 from the registers", machine.state(Machines.SHAPE_0), 255);
        check.due("SHAPE 1 from the registers", machine.state(Machines.SHAPE_1), 255);
    }

    private void takesLetters() {
        PictureMachine machine = Lines.withList(0x40, 0x42, 0x00, 0x01, 0x02, 0x70);
        lineTakes("letters with an address", machine, "p..." + Lines.BOTH + Lines.END);
        check.due("L", machine.state(Machines.L), 0x43);
        check.due("D", machine.state(Machines.D), 0x108);
        check.due("the mode", machine.state(Machines.MODE), 2);
        for (int row = 1; row < 4; row++) {
            check.due("rows done", machine.state(Machines.ROWS_DONE), row);
            lineTakes("letters, row " + row, machine, "pppp" + Lines.LETTERS + Lines.END);
        }
        check.due("the mode after four rows", machine.state(Machines.MODE), PictureMachine.NONE);
        check.due("rows done after four rows", machine.state(Machines.ROWS_DONE), 0);
        lineTakes("letters without an address", machine, "p.pp" + Lines.BOTH + Lines.END);
        check.due("D", machine.state(Machines.D), 0x110);
    }

    private void takesDots() {
        PictureMachine machine = Lines.withList(0x40, 0x43, 0x00, 0x01, 0x03, 0x44, 0x34, 0xFE, 0x04, 0x70);
        lineTakes("dots with an address", machine, "p..." + Lines.DATA + Lines.END);
        check.due("the mode after one row", machine.state(Machines.MODE), PictureMachine.NONE);
        lineTakes("dots without an address", machine, "p.pp" + Lines.DATA + Lines.END);
        check.due("D", machine.state(Machines.D), 0x110);
        lineTakes("two rows with an address", machine, "p..." + Lines.DATA + Lines.END);
        check.due("D, its address modulo 1024", machine.state(Machines.D), 0x23C);
        lineTakes("two rows, the second", machine, Lines.NOTHING);
        check.due("the mode after two rows", machine.state(Machines.MODE), PictureMachine.NONE);
        lineTakes("two rows without an address", machine, "p.pp" + Lines.DATA + Lines.END);
        check.due("rows done", machine.state(Machines.ROWS_DONE), 1);
    }

    private void takesBlankRows() {
        PictureMachine machine = Lines.withList(0x40, 0x00, 0x30, 0x70);
        lineTakes("one blank row", machine, Lines.MODE_BYTE_ALONE);
        lineTakes("four blank rows", machine, Lines.MODE_BYTE_ALONE);
        check.due("the mode", machine.state(Machines.MODE), 0);
        for (int row = 1; row < 4; row++) {
            lineTakes("four blank rows", machine, Lines.NOTHING);
        }
        lineTakes("eight blank rows", machine, Lines.MODE_BYTE_ALONE);
        for (int row = 1; row < 8; row++) {
            check.due("rows done", machine.state(Machines.ROWS_DONE), row);
            lineTakes("eight blank rows", machine, Lines.NOTHING);
        }
        check.due("the line", machine.state(Machines.LINE), 14);
        check.due("the mode in line 14, with a row to come", machine.state(Machines.MODE), 0);
    }

    private void otherModesAreOneBlankRow() {
        for (int mode = 5; mode < 16; mode++) {
            PictureMachine shown = Lines.withList(0x40, 0x70 | mode, 0x70);
            shown.run(2);
            check.due("the mode", shown.state(Machines.MODE), mode);
            PictureMachine machine = Lines.withList(0x40, 0x70 | mode, 0x70);
            lineTakes("mode " + mode, machine, Lines.MODE_BYTE_ALONE);
            check.due("the mode when done", machine.state(Machines.MODE), PictureMachine.NONE);
            dots("mode " + mode, machine, 1, 0, 0);
            lineTakes("after mode " + mode, machine, Lines.MODE_BYTE_ALONE);
        }
    }

    private void jumps() {
        PictureMachine machine = Lines.withList(0x40, 0x31, 0x34, 0xFD);
        machine.poke(0x134, 0x03);
        machine.run(2);
        check.due("L after the mode byte", machine.state(Machines.L), 0x41);
        machine.run(1);
        check.due("L after the lower byte", machine.state(Machines.L), 0x42);
        machine.run(1);
        check.due("L is the address", machine.state(Machines.L), 0x134);
        machine.run(20);
        check.due("it does not rest", machine.state(Machines.RESTS), 0);
        lineTakes("the line behind the jump", machine, "p.pp" + Lines.DATA + Lines.END);
        check.due("L", machine.state(Machines.L), 0x135);
        PictureMachine other = Lines.withList(0x40, 0x01, 0x40, 0x00);
        lineTakes("a jump", other, "p..." + Lines.NO_DATA + Lines.END);
        lineTakes("a jump to itself", other, "p..." + Lines.NO_DATA + Lines.END);
    }

    private void rests() {
        PictureMachine machine = Lines.withList(0x40, 0x41, 0x34, 0x01);
        machine.poke(0x134, 0x03);
        machine.run(23);
        check.due("it does not rest in the row", machine.state(Machines.RESTS), 0);
        check.due("the mode", machine.state(Machines.MODE), 1);
        machine.run(1);
        check.due("it rests when the row is done", machine.state(Machines.RESTS), 1);
        check.due("the mode", machine.state(Machines.MODE), PictureMachine.NONE);
        check.due("L", machine.state(Machines.L), 0x134);
        for (int line = 2; line < 13; line++) {
            lineTakes("while it rests", machine, Lines.NOTHING);
            dots("while it rests", machine, line, 0, 0, 0, 0);
        }
        Machines.runTo(machine, 0, 0);
        check.due("it rests until the frame's end", machine.state(Machines.RESTS), 1);
        machine.run(1);
        check.due("it rests no more", machine.state(Machines.RESTS), 0);
        check.due("L is LIST", machine.state(Machines.L), 0x40);
    }

    private void movesOnInItsPage() {
        PictureMachine machine = Lines.withList(0x1FE, 0x43, 0xFC);
        machine.poke(0x100, 0x01);
        machine.poke(0x101, 0x70);
        Machines.pokeAll(machine, 0x1FC, 1, 2);
        lineTakes("a list over the end of its page", machine, "p..." + Lines.DATA + Lines.END);
        check.due("L", machine.state(Machines.L), 0x101);
        check.due("D", machine.state(Machines.D), 0x104);
        // The data are the bytes at 1FC .. 1FF and 100 .. 103.
        dots("data over the end of their page", machine, 1,
            0, 0, 0, 1, 0, 0, 0, 2, 1, 0, 0, 3, 3, 3, 3, 0, 0, 0, 0, 1, 1, 3, 0, 0, 0, 0, 0, 0, 0, 0, 0, 0);
    }

    private void fetchesMemoryOnly() {
        PictureMachine machine = Lines.withList(0x40, 0x43, 0x00, 0x03, 0x41, 0x07, 0x03);
        Machines.sendWithSum(machine, 49, 82, 1);
        machine.run(24);
        dots("data at the registers", machine, 1, 3, 3, 3, 3, 3, 3, 3, 3, 3, 3, 3, 3, 3, 3, 3, 3);
        machine.write(2, 0x07);
        machine.write(3, 0x03);
        Machines.runTo(machine, 1, 2);
        check.due("a list at the registers", machine.state(Machines.MODE), 15);
        check.due("no byte was taken by it", machine.state(Machines.CAME_IN), 1);
        check.due("L", machine.state(Machines.L), 0x308);
    }

    private void showsLetters() {
        PictureMachine machine = Lines.withList(0x41, 0x42, 0x80, 0x00, 0x70);
        machine.write(1, 0xFC);
        Machines.pokeAll(machine, 0x80, 0x00, 0x01, 0x7F, 0xC1, 0x3F, 0x40, 0x02, 0x03);
        Machines.pokeAll(machine, 0, 0x1B, 0xE4, 0xFF, 0x00, 0x01, 0x02, 0x03, 0x04);
        Machines.pokeAll(machine, 0xFC, 0x55, 0xAA, 0x56, 0xA9);
        machine.run(24);
        // Its data are not fetched again for the later rows.
        Machines.pokeAll(machine, 0x80, 9, 9, 9, 9, 9, 9, 9, 9);
        machine.run(72);
        int[][] zero = {{0, 1, 2, 3}, {3, 2, 1, 0}, {3, 3, 3, 3}, {0, 0, 0, 0}};
        int[][] one = {{0, 0, 0, 1}, {0, 0, 0, 2}, {0, 0, 0, 3}, {0, 0, 1, 0}};
        int[][] last = {{1, 1, 1, 1}, {2, 2, 2, 2}, {1, 1, 1, 2}, {2, 2, 2, 1}};
        for (int row = 0; row < 4; row++) {
            int[] due = new int[32];
            int[][] letters = {zero[row], one[row], last[row], one[row], last[row], zero[row], due, due};
            for (int number = 0; number < 6; number++) {
                System.arraycopy(letters[number], 0, due, 4 * number, 4);
            }
            dots("letters", machine, 1 + row, due);
        }
    }

    private void showsTwoRowsOfDots() {
        PictureMachine machine = Lines.withList(0x40, 0x44, 0x80, 0x00, 0x70);
        Machines.pokeAll(machine, 0x80, 0x1B, 0xE4, 0, 0, 0, 0, 0, 0x03);
        machine.run(24);
        machine.poke(0x80, 0);
        machine.run(48);
        for (int line = 1; line <= 2; line++) {
            dots("two rows", machine, line, 0, 1, 2, 3, 3, 2, 1, 0, 0);
            check.due("the last dot", machine.dot(line, 31), 103);
        }
        dots("the blank row behind", machine, 3, 0, 0, 0, 0, 0);
    }

    private void keepsDataPlaceFromLineToLine() {
        PictureMachine machine = Lines.withList(0x40, 0x43, 0x80, 0x00, 0x03, 0x70);
        machine.poke(0x88, 0xC0);
        machine.run(48);
        dots("the second line's data", machine, 2, 3, 0, 0, 0);
    }

    private void beginsAnewInEachFrame() {
        // A mode line that has rows to come at the frame's end is there no more in the next.
        PictureMachine machine = Lines.withList(0x40, 0x70, 0x60, 0x03);
        Machines.runTo(machine, 13, 0);
        check.due("the mode in line 13", machine.state(Machines.MODE), 0);
        check.due("rows done in line 13", machine.state(Machines.ROWS_DONE), 4);
        Machines.runTo(machine, 0, 1);
        check.due("the mode in line 0", machine.state(Machines.MODE), PictureMachine.NONE);
        check.due("L in line 0", machine.state(Machines.L), 0x40);
        Machines.runTo(machine, 1, 0);
        lineTakes("the first line again", machine, Lines.MODE_BYTE_ALONE);
    }

    private void stopsWithoutControl() {
        PictureMachine machine = Lines.withList(0x40, 0x43, 0x80, 0x00, 0x03, 0x70);
        machine.poke(0x80, 0xFF);
        Machines.runTo(machine, 1, 23);
        machine.write(0, 0);
        machine.run(1);
        dots("without bit 0 of CONTROL when it is drawn", machine, 1, 0, 0, 0, 0);
        check.due("the row is not done", machine.state(Machines.MODE), 3);
        lineTakes("without bit 0", machine, Lines.NOTHING);
        machine.write(0, 1);
        machine.poke(0x88, 0x55);
        lineTakes("the row comes again, from D on", machine, "pppp" + Lines.DATA + Lines.END);
        dots("the row that came again", machine, 3, 1, 1, 1, 1);
        check.due("the row is done", machine.state(Machines.MODE), PictureMachine.NONE);
        Machines.runTo(machine, 4, 2);
        check.due("the next mode byte", machine.state(Machines.L), 0x44);
    }

    /** An address that was said in one line is not fetched in another. */
    private void addressNeedsItsOwnLine() {
        PictureMachine machine = Lines.withList(0x40, 0x43, 0x80, 0x00, 0x70);
        machine.run(2);
        machine.write(0, 0);
        machine.run(22);
        machine.write(0, 1);
        lineTakes("its address is not fetched", machine, "pppp" + Lines.DATA + Lines.END);
        check.due("L", machine.state(Machines.L), 0x41);
        check.due("D", machine.state(Machines.D), 8);
    }

    private void keepsTheLowerByteFetchedLast() {
        PictureMachine machine = Lines.withList(0x40, 0x43, 0x80, 0x00, 0x43, 0x01, 0x02);
        machine.run(24);
        machine.run(2);
        machine.write(0, 0);
        check.due("own in cycle 2", machine.run(1), 1);
        machine.write(0, 1);
        check.due("own in cycle 3", machine.run(1), 0);
        check.due("D has the lower byte of before", machine.state(Machines.D), 0x180);
        check.due("L", machine.state(Machines.L), 0x45);
    }

    /** The document leaves room here; this is what README.md says of it. */
    private void showsWhatWasFetchedBefore() {
        PictureMachine machine = Lines.withList(0x40, 0x43, 0x00, 0x01, 0x03, 0x02, 0x03);
        for (int i = 0; i < 16; i++) {
            machine.poke(256 + i, i < 8 ? 0x1B : 0xFF);
        }
        machine.run(24);
        dots("fetched", machine, 1, 0, 1, 2, 3);
        runWithoutFetches(machine);
        dots("data that are not fetched", machine, 2, 0, 1, 2, 3);
        check.due("D", machine.state(Machines.D), 264);
        runWithoutFetches(machine);
        dots("letters that are not fetched", machine, 3, 0, 0, 0, 0);
    }

    /** A line in which CONTROL has bit 0 but for the cycles of data and letters. */
    private static void runWithoutFetches(PictureMachine machine) {
        machine.run(4);
        machine.write(0, 0);
        machine.run(16);
        machine.write(0, 1);
        machine.run(4);
    }
}
