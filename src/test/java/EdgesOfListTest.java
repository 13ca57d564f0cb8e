/** The boundary cases that the document names for the list and its modes, a test for each sentence. */
public final class EdgesOfListTest {
    public static void main(String[] args) {
        Sentences sentences = new Sentences();
        sentences.holds("At cycle 0 of line 0: L is LIST modulo 1024", EdgesOfListTest::takesListModulo1024);
        sentences.holds("At cycle 0 of line 0: [..] no mode line is there", EdgesOfListTest::forgetsTheModeLine);
        sentences.holds("At cycle 0 of line 0: [..] it does not REST", EdgesOfListTest::restsNoMore);
        sentences.holds("In the lines 1 .. 12", EdgesOfListTest::fetchesInItsLinesOnly);
        sentences.holds("as long as CONTROL has bit 0", EdgesOfListTest::fetchesWithBitZeroOnly);
        sentences.holds("if no mode line is there, or all its rows are done", EdgesOfListTest::beginsModeLines);
        sentences.holds("and it does not rest", EdgesOfListTest::fetchesNoModeByteWhileItRests);
        sentences.holds("Moving on of L [..]: the lowest 8 bits + 1, modulo 256; the others stay",
            EdgesOfListTest::movesOnInTheList);
        sentences.holds("Moving on of [..] D: the lowest 8 bits + 1, modulo 256; the others stay",
            EdgesOfListTest::movesOnInTheData);
        sentences.holds("0: (bits 4 to 6) + 1 blank rows", EdgesOfListTest::hasOneToEightBlankRows);
        sentences.holds("1: one blank row, in which L becomes the address that follows",
            EdgesOfListTest::jumpsInOneRow);
        sentences.holds("with bit 6 it rests from the time on when its row is done",
            EdgesOfListTest::restsBehindItsRow);
        sentences.holds("2: four rows of LETTERS; 3: one row of DOTS; 4: two rows of dots",
            EdgesOfListTest::hasRowsByItsMode);
        sentences.holds("others: one blank row", EdgesOfListTest::otherModesAreOneBlankRow);
        sentences.holds("With mode 2 to 4 and bit 6 D becomes the address that follows",
            EdgesOfListTest::takesAnAddressWithBitSix);
        sentences.end();
    }

    private static void takesListModulo1024(Check check) {
        int[][] lists = {{0xFF, 0xFF, 1023}, {0x00, 0x04, 0}, {0xFF, 0x03, 1023}, {0x34, 0xFE, 0x234}, {0, 0xFC, 0}};
        for (int[] list : lists) {
            for (int control = 0; control < 2; control++) {
                PictureMachine machine = Machines.idle();
                machine.write(0, control);
                machine.write(2, list[0]);
                machine.write(3, list[1]);
                check.due("L before cycle 0", machine.state(Machines.L), 0);
                machine.run(1);
                check.due("L for " + list[0] + " and " + list[1], machine.state(Machines.L), list[2]);
            }
        }
        PictureMachine machine = Machines.idle();
        machine.run(1);
        machine.write(2, 7);
        machine.run(383);
        check.due("L before the next frame", machine.state(Machines.L), 0);
        machine.run(1);
        check.due("L in the next frame", machine.state(Machines.L), 7);
    }

    private static void forgetsTheModeLine(Check check) {
        // Eight rows and eight rows: of the second, four are to come behind line 12.
        PictureMachine machine = Lines.withList(0x40, 0x70, 0x70, 0x03);
        Machines.runTo(machine, 0, 0);
        check.due("the mode before", machine.state(Machines.MODE), 0);
        check.due("rows done before", machine.state(Machines.ROWS_DONE), 4);
        machine.run(1);
        check.due("the mode after", machine.state(Machines.MODE), PictureMachine.NONE);
        check.due("rows done after", machine.state(Machines.ROWS_DONE), 0);
        Machines.runTo(machine, 1, 0);
        Lines.takes(check, "a new mode line", machine, Lines.MODE_BYTE_ALONE);
        // The same without bit 0 of CONTROL.
        machine = Lines.withList(0x40, 0x70, 0x70);
        machine.run(24);
        machine.write(0, 0);
        Machines.runTo(machine, 0, 1);
        check.due("the mode without bit 0", machine.state(Machines.MODE), PictureMachine.NONE);
    }

    private static void restsNoMore(Check check) {
        for (int control = 0; control < 2; control++) {
            PictureMachine machine = Lines.withList(0x40, 0x41, 0x40, 0x00);
            machine.run(24);
            machine.write(0, control);
            Machines.runTo(machine, 0, 0);
            check.due("rests before", machine.state(Machines.RESTS), 1);
            machine.run(1);
            check.due("rests after", machine.state(Machines.RESTS), 0);
        }
    }

    private static void fetchesInItsLinesOnly(Check check) {
        PictureMachine machine = Lines.withList(0x40, 3, 3, 3, 3, 3, 3, 3, 3, 3, 3, 3, 3, 3, 3, 3, 3);
        for (int line = 1; line <= 12; line++) {
            check.due("L before line " + line, machine.state(Machines.L), 0x40 + line - 1);
            Lines.takes(check, "a mode line each", machine, "p.pp" + Lines.DATA + Lines.END);
        }
        for (int line = 13; line <= 15; line++) {
            Lines.takes(check, "below the picture", machine, Lines.NOTHING);
        }
        check.due("L behind the picture", machine.state(Machines.L), 0x4C);
        check.due("D behind the picture", machine.state(Machines.D), 12 * 8);
        Lines.takes(check, "above the picture", machine, Lines.NOTHING);
        Lines.takes(check, "in the picture again", machine, "p.pp" + Lines.DATA + Lines.END);
        check.due("D goes on in the next frame", machine.state(Machines.D), 13 * 8);
    }

    private static void fetchesWithBitZeroOnly(Check check) {
        for (int control : new int[] {0, 4, 252}) {
            PictureMachine machine = Lines.withList(0x40, 0x43, 0x80, 0x00);
            machine.write(0, control);
            Lines.takes(check, "CONTROL " + control, machine, Lines.NOTHING);
            check.due("L", machine.state(Machines.L), 0x40);
        }
        PictureMachine machine = Lines.withList(0x40, 0x43, 0x80, 0x00);
        machine.write(0, 253);
        Lines.takes(check, "CONTROL 253", machine, "p..." + Lines.DATA + Lines.END);
        // Off in the midst of the data, and on again.
        machine = Lines.withList(0x40, 0x43, 0x80, 0x00);
        machine.run(10);
        machine.write(0, 0);
        check.due("own in the cycles 10 .. 13", machine.run(4), 4);
        check.due("D, four bytes later", machine.state(Machines.D), 0x83);
        machine.write(0, 1);
        check.due("own in the cycles 14 .. 19", machine.run(6), 3);
        check.due("D, three bytes later", machine.state(Machines.D), 0x86);
    }

    private static void beginsModeLines(Check check) {
        PictureMachine machine = Lines.withList(0x40, 0x10, 0x02, 0x00);
        Lines.takes(check, "no mode line is there", machine, Lines.MODE_BYTE_ALONE);
        Lines.takes(check, "a row is to come", machine, Lines.NOTHING);
        check.due("L", machine.state(Machines.L), 0x41);
        Lines.takes(check, "all rows are done", machine, "p.pp" + Lines.BOTH + Lines.END);
        for (int row = 1; row < 4; row++) {
            Lines.takes(check, "row " + row, machine, "pppp" + Lines.LETTERS + Lines.END);
        }
        Lines.takes(check, "all four are done", machine, Lines.MODE_BYTE_ALONE);
    }

    private static void fetchesNoModeByteWhileItRests(Check check) {
        PictureMachine machine = Lines.withList(0x40, 0x41, 0x50, 0x00);
        machine.poke(0x50, 0x03);
        Lines.takes(check, "the jump", machine, "p..." + Lines.NO_DATA + Lines.END);
        for (int line = 2; line <= 12; line++) {
            Lines.takes(check, "rests", machine, Lines.NOTHING);
        }
        check.due("L", machine.state(Machines.L), 0x50);
    }

    private static void movesOnInTheList(Check check) {
        for (int page = 0; page < 3; page++) {
            PictureMachine machine = Lines.withList(256 * page + 255, 0x05);
            machine.run(2);
            check.due("L behind " + (256 * page + 255), machine.state(Machines.L), 256 * page);
            machine.poke(256 * page, 0x05);
            machine.run(24);
            check.due("L behind " + 256 * page, machine.state(Machines.L), 256 * page + 1);
        }
        // 255 is fetched at 1023, and 768 is next.
        PictureMachine machine = Lines.withList(0x40, 0x70);
        machine.write(2, 255);
        machine.write(3, 3);
        machine.run(384 + 2);
        check.due("L behind 1023", machine.state(Machines.L), 768);
        // An address, of which the lower byte stands at the end of its page and the higher one at its beginning.
        machine = Lines.withList(0x1FE, 0x43, 0x34);
        machine.poke(0x100, 0x02);
        machine.poke(0x200, 0x01);
        machine.run(3);
        check.due("L behind the lower byte", machine.state(Machines.L), 0x100);
        machine.run(1);
        check.due("L behind the higher byte", machine.state(Machines.L), 0x101);
        check.due("D", machine.state(Machines.D), 0x234);
    }

    private static void movesOnInTheData(Check check) {
        for (int page = 0; page < 4; page++) {
            PictureMachine machine = Lines.withList(0x40, 0x43, 0xFF, page, 0x03);
            machine.run(5);
            check.due("D behind " + (256 * page + 255), machine.state(Machines.D), 256 * page);
            machine.run(19);
            check.due("D behind the row", machine.state(Machines.D), 256 * page + 7);
            machine.run(24);
            check.due("D behind the next row", machine.state(Machines.D), 256 * page + 15);
        }
        PictureMachine machine = Lines.withList(0x40, 0x43, 0xFF, 0x01);
        machine.poke(0x1FF, 0x1B);
        machine.poke(0x100, 0xE4);
        machine.poke(0x200, 0xFF);
        machine.run(24);
        Lines.dots(check, "data over the end of a page", machine, 1, 0, 1, 2, 3, 3, 2, 1, 0);
    }

    private static void hasOneToEightBlankRows(Check check) {
        for (int rows = 1; rows <= 8; rows++) {
            for (int mark = 0; mark <= 0x80; mark += 0x80) {
                PictureMachine machine = Lines.withList(0x40, mark | 16 * (rows - 1), 0x02);
                Lines.takes(check, rows + " rows", machine, Lines.MODE_BYTE_ALONE);
                for (int row = 1; row < rows; row++) {
                    check.due("the mode", machine.state(Machines.MODE), 0);
                    check.due("rows done", machine.state(Machines.ROWS_DONE), row);
                    Lines.takes(check, rows + " rows", machine, Lines.NOTHING);
                }
                check.due("the mode behind " + rows, machine.state(Machines.MODE), PictureMachine.NONE);
                Lines.takes(check, "behind " + rows + " rows", machine, "p.pp" + Lines.BOTH + Lines.END);
            }
        }
    }

    private static void jumpsInOneRow(Check check) {
        for (int bits = 0; bits < 0x100; bits += 0x10) {
            PictureMachine machine = Lines.withList(0x40, bits | 1, 0x50, 0x00);
            machine.run(3);
            check.due("L behind the lower byte", machine.state(Machines.L), 0x42);
            machine.run(1);
            check.due("L is the address", machine.state(Machines.L), 0x50);
            check.due("D stays", machine.state(Machines.D), 0);
            check.due("the mode", machine.state(Machines.MODE), 1);
            machine.run(20);
            check.due("the mode behind its row", machine.state(Machines.MODE), PictureMachine.NONE);
            Lines.dots(check, "the blank row", machine, 1, 0, 0, 0, 0);
        }
    }

    private static void restsBehindItsRow(Check check) {
        PictureMachine machine = Lines.withList(0x40, 0x41, 0x50, 0x00);
        for (int cycle = 0; cycle < 24; cycle++) {
            check.due("rests before cycle " + cycle, machine.state(Machines.RESTS), 0);
            machine.run(1);
        }
        check.due("rests behind the row", machine.state(Machines.RESTS), 1);
        machine = Lines.withList(0x40, 0xB1, 0x50, 0x00);
        machine.run(24);
        check.due("rests without bit 6", machine.state(Machines.RESTS), 0);
        machine = Lines.withList(0x40, 0x43, 0x50, 0x00);
        machine.run(24);
        check.due("rests with bit 6 of another mode", machine.state(Machines.RESTS), 0);
        // As long as its row is not done, it does not rest.
        machine = Lines.withList(0x40, 0x41, 0x50, 0x00);
        machine.run(23);
        machine.write(0, 0);
        machine.run(1);
        check.due("rests when the row is not done", machine.state(Machines.RESTS), 0);
        machine.write(0, 1);
        machine.run(24);
        check.due("rests when it is", machine.state(Machines.RESTS), 1);
    }

    private static void hasRowsByItsMode(Check check) {
        int[] rows = {4, 1, 2};
        for (int mode = 2; mode <= 4; mode++) {
            for (int bits = 0; bits < 0x100; bits += 0x10) {
                PictureMachine machine = Lines.withList(0x40, bits | mode, 0x05, 0x05, 0x05);
                for (int row = 1; row <= rows[mode - 2]; row++) {
                    machine.run(23);
                    check.due("mode " + mode + " in row " + row, machine.state(Machines.MODE), mode);
                    check.due("rows done in row " + row, machine.state(Machines.ROWS_DONE), row - 1);
                    machine.run(1);
                }
                check.due("the mode behind its rows", machine.state(Machines.MODE), PictureMachine.NONE);
            }
        }
    }

    private static void otherModesAreOneBlankRow(Check check) {
        for (int mode = 5; mode <= 15; mode++) {
            PictureMachine machine = Lines.withList(0x40, 0xF0 | mode, 0x02);
            Lines.takes(check, "mode " + mode, machine, Lines.MODE_BYTE_ALONE);
            for (int x = 0; x < 32; x++) {
                check.due("dot(1, " + x + ")", machine.dot(1, x), 100);
            }
            Lines.takes(check, "behind mode " + mode, machine, "p.pp" + Lines.BOTH + Lines.END);
        }
    }

    private static void takesAnAddressWithBitSix(Check check) {
        for (int mode = 0; mode <= 15; mode++) {
            PictureMachine without = Lines.withList(0x40, 0xB0 | mode, 0x80, 0x01);
            without.run(4);
            check.due("L, mode " + mode + " without bit 6", without.state(Machines.L), mode == 1 ? 0x180 : 0x41);
            check.due("D, mode " + mode + " without bit 6", without.state(Machines.D), 0);
            PictureMachine with = Lines.withList(0x40, 0x40 | mode, 0x80, 0x01);
            with.run(4);
            boolean said = mode >= 2 && mode <= 4;
            check.due("D, mode " + mode + " with bit 6", with.state(Machines.D), said ? 0x180 : 0);
            int place = said ? 0x43 : mode == 1 ? 0x180 : 0x41;
            check.due("L, mode " + mode + " with bit 6", with.state(Machines.L), place);
        }
    }
}
