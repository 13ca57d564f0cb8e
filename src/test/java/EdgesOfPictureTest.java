import java.util.Arrays;

/** The boundary cases that the document names for how a line is drawn, a test for each sentence. */
public final class EdgesOfPictureTest {
    private static final int PLAYER_0 = 50;
    private static final int PLAYER_1 = 60;

    public static void main(String[] args) {
        Sentences sentences = new Sentences();
        sentences.holds("A LINE 1 .. 12 IS DRAWN", EdgesOfPictureTest::drawsItsLinesOnly);
        sentences.holds("with 32 dots: each of the 8 bytes shown has four of two bits, the highest first",
            EdgesOfPictureTest::drawsThirtyTwoDots);
        sentences.holds("in blank rows [..] all are colour 0", EdgesOfPictureTest::blankRowsAreColourZero);
        sentences.holds("lines without a mode line [..] all are colour 0",
            EdgesOfPictureTest::noModeLineIsColourZero);
        sentences.holds("without bit 0 of CONTROL all are colour 0", EdgesOfPictureTest::noBitZeroIsColourZero);
        sentences.holds("Then, if CONTROL has bit 0, the row of the mode line, if there is one, is done",
            EdgesOfPictureTest::theRowIsDone);
        sentences.holds("PLAYER p covers the dots from its column on", EdgesOfPictureTest::playersEndWithTheLine);
        sentences.holds("for each bit of its shape, the highest first, one dot", EdgesOfPictureTest::eachBitIsADot);
        sentences.holds("or two if SIZES has bit p", EdgesOfPictureTest::eachBitIsTwoDots);
        sentences.holds("or two if SIZES has bit p: over the line's end",
            EdgesOfPictureTest::widePlayersEndWithTheLine);
        sentences.holds("Where it covers a dot of a colour c, 1 .. 3, it collides with this",
            EdgesOfPictureTest::collidesWithColours);
        sentences.holds("collides: not outside the line, and not without a shape",
            EdgesOfPictureTest::collidesInTheLineOnly);
        sentences.holds("where both cover one, they meet", EdgesOfPictureTest::playersMeet);
        sentences.holds("HIT: all collisions are 0: and not before it", EdgesOfPictureTest::collisionsStay);
        sentences.holds("The dot shows the colour of player 0, or else of player 1",
            EdgesOfPictureTest::zeroIsBefore);
        sentences.holds("unless ORDER has bit 0 and its colour is not 0", EdgesOfPictureTest::orderHidesPlayers);
        sentences.holds("In what is shown, colours are the bytes of the registers then",
            EdgesOfPictureTest::coloursAreThoseOfThen);
        sentences.end();
    }

    /** Line 1 of the machine once it is drawn. */
    private static int[] drawn(PictureMachine machine) {
        Machines.runTo(machine, 2, 0);
        return line(machine, 1);
    }

    private static int[] line(PictureMachine machine, int y) {
        int[] dots = new int[32];
        for (int x = 0; x < 32; x++) {
            dots[x] = machine.dot(y, x);
        }
        return dots;
    }

    private static void same(Check check, String what, int[] got, int[] due) {
        check.due(what, Arrays.toString(got), Arrays.toString(due));
    }

    private static int[] all(int colour) {
        int[] dots = new int[32];
        Arrays.fill(dots, colour);
        return dots;
    }

    /** The row of the colours 0 1 2 3 again and again, with a colour from one dot to another. */
    private static int[] row(int colour, int from, int to) {
        int[] dots = new int[32];
        for (int x = 0; x < 32; x++) {
            dots[x] = x >= from && x <= to ? colour : 100 + x % 4;
        }
        return dots;
    }

    private static PictureMachine withPlayers(int shape0, int column0, int shape1, int column1) {
        PictureMachine machine = PlayersTest.overRow(3, shape0, shape1);
        machine.write(14, column0);
        machine.write(15, column1);
        return machine;
    }

    private static void drawsItsLinesOnly(Check check) {
        PictureMachine machine = Machines.idle();
        machine.write(12, 50);
        machine.write(19, 128);
        machine.write(20, 128);
        for (int line = 0; line < 16; line++) {
            machine.write(8, 10 + line);
            machine.write(18, 0);
            machine.run(24);
            boolean shown = line >= 1 && line <= 12;
            check.due("met in line " + line, machine.state(Machines.MET), shown ? 1 : 0);
        }
        for (int y = 1; y <= 12; y++) {
            check.due("dot(" + y + ", 0)", machine.dot(y, 0), 50);
            check.due("dot(" + y + ", 31)", machine.dot(y, 31), 10 + y);
        }
    }

    private static void drawsThirtyTwoDots(Check check) {
        PictureMachine machine = withPlayers(0, 0, 0, 0);
        Machines.pokeAll(machine, 0x80, 0b11_10_01_00, 0, 0, 0, 0, 0, 0, 0b00_01_10_11);
        int[] due = all(100);
        System.arraycopy(new int[] {103, 102, 101, 100}, 0, due, 0, 4);
        System.arraycopy(new int[] {100, 101, 102, 103}, 0, due, 28, 4);
        same(check, "the first byte and the last", drawn(machine), due);
        machine = withPlayers(0, 0, 0, 0);
        Machines.pokeAll(machine, 0x80, 255, 255, 255, 255, 255, 255, 255, 255);
        same(check, "all bits", drawn(machine), all(103));
    }

    private static void blankRowsAreColourZero(Check check) {
        // Behind a row of dots, whose bytes are not shown again.
        for (int mode : new int[] {0x00, 0x01, 0x05, 0x0F}) {
            PictureMachine machine = withPlayers(0, 0, 0, 0);
            Machines.pokeAll(machine, 0x43, mode, 0x60, 0x00);
            Machines.runTo(machine, 3, 0);
            same(check, "the row of dots", line(machine, 1), row(0, 32, 32));
            same(check, "mode " + mode, line(machine, 2), all(100));
        }
    }

    private static void noModeLineIsColourZero(Check check) {
        // Bit 0 comes behind cycle 1, when there is no mode line yet.
        PictureMachine machine = withPlayers(0, 0, 0, 0);
        machine.write(0, 0);
        Machines.runTo(machine, 1, 2);
        machine.write(0, 1);
        same(check, "no mode line yet", drawn(machine), all(100));
        check.due("the mode", machine.state(Machines.MODE), PictureMachine.NONE);
        // Off in cycle 1 of line 2, when the row of dots is done.
        machine = withPlayers(0, 0, 0, 0);
        Machines.runTo(machine, 2, 0);
        machine.write(0, 0);
        Machines.runTo(machine, 2, 2);
        machine.write(0, 1);
        Machines.runTo(machine, 3, 0);
        same(check, "the mode line is done", line(machine, 2), all(100));
    }

    private static void noBitZeroIsColourZero(Check check) {
        for (int control : new int[] {0, 252}) {
            PictureMachine machine = withPlayers(0, 0, 0, 0);
            Machines.runTo(machine, 1, 23);
            machine.write(0, control);
            same(check, "CONTROL " + control, drawn(machine), all(100));
        }
        PictureMachine machine = withPlayers(255, 0, 255, 1);
        machine.write(0, 0);
        drawn(machine);
        check.due("collisions of 0 with it", machine.state(Machines.COLLISIONS_0), 0);
        check.due("collisions of 1 with it", machine.state(Machines.COLLISIONS_1), 0);
    }

    private static void theRowIsDone(Check check) {
        PictureMachine machine = withPlayers(0, 0, 0, 0);
        machine.poke(0x40, 0x44);
        Machines.runTo(machine, 1, 23);
        check.due("rows done before the line's end", machine.state(Machines.ROWS_DONE), 0);
        machine.run(1);
        check.due("rows done at the line's end", machine.state(Machines.ROWS_DONE), 1);
        Machines.runTo(machine, 2, 23);
        machine.write(0, 0);
        machine.run(1);
        check.due("rows done without bit 0", machine.state(Machines.ROWS_DONE), 1);
        check.due("the mode without bit 0", machine.state(Machines.MODE), 4);
        machine.write(0, 1);
        machine.run(24);
        check.due("the mode when the second is done", machine.state(Machines.MODE), PictureMachine.NONE);
        same(check, "the second row, a line later", line(machine, 3), row(0, 32, 32));
        // Below the picture no row is done.
        machine = Lines.withList(0x40, 0x70, 0x70);
        Machines.runTo(machine, 13, 0);
        check.due("rows done in line 13", machine.state(Machines.ROWS_DONE), 4);
        Machines.runTo(machine, 0, 0);
        check.due("rows done behind line 15", machine.state(Machines.ROWS_DONE), 4);
    }

    private static void playersEndWithTheLine(Check check) {
        int[] columns = {0, 1, 24, 25, 31, 32, 33, 64, 96, 128, 192, 248, 255};
        for (int column : columns) {
            int[] due = row(PLAYER_0, column, Math.min(31, column + 7));
            same(check, "player 0 at " + column, drawn(withPlayers(255, column, 0, 0)), due);
            due = row(PLAYER_1, column, Math.min(31, column + 7));
            same(check, "player 1 at " + column, drawn(withPlayers(0, 0, 255, column)), due);
        }
    }

    private static void eachBitIsADot(Check check) {
        for (int k = 0; k < 8; k++) {
            int x = 17 - k;
            same(check, "bit " + k + " of shape 0", drawn(withPlayers(1 << k, 10, 0, 0)), row(PLAYER_0, x, x));
            same(check, "bit " + k + " of shape 1", drawn(withPlayers(0, 0, 1 << k, 10)), row(PLAYER_1, x, x));
        }
    }

    private static void eachBitIsTwoDots(Check check) {
        for (int k = 0; k < 8; k++) {
            int first = 5 + 2 * (7 - k);
            PictureMachine machine = withPlayers(1 << k, 5, 0, 0);
            machine.write(16, 1);
            same(check, "bit " + k + " of shape 0", drawn(machine), row(PLAYER_0, first, first + 1));
            machine = withPlayers(0, 0, 1 << k, 5);
            machine.write(16, 2);
            same(check, "bit " + k + " of shape 1", drawn(machine), row(PLAYER_1, first, first + 1));
        }
        for (int sizes : new int[] {2, 4, 254}) {
            PictureMachine machine = withPlayers(255, 5, 0, 0);
            machine.write(16, sizes);
            same(check, "player 0, SIZES " + sizes, drawn(machine), row(PLAYER_0, 5, 12));
        }
        for (int sizes : new int[] {1, 4, 253}) {
            PictureMachine machine = withPlayers(0, 0, 255, 5);
            machine.write(16, sizes);
            same(check, "player 1, SIZES " + sizes, drawn(machine), row(PLAYER_1, 5, 12));
        }
    }

    private static void widePlayersEndWithTheLine(Check check) {
        for (int column : new int[] {0, 15, 16, 17, 30, 31, 32, 64, 128, 240, 255}) {
            PictureMachine machine = withPlayers(255, column, 0, 0);
            machine.write(16, 255);
            same(check, "player 0 at " + column, drawn(machine), row(PLAYER_0, column, Math.min(31, column + 15)));
            machine = withPlayers(0, 0, 255, column);
            machine.write(16, 255);
            same(check, "player 1 at " + column, drawn(machine), row(PLAYER_1, column, Math.min(31, column + 15)));
        }
    }

    private static void collidesWithColours(Check check) {
        int[] due = {0, 2, 4, 8};
        for (int column = 0; column < 32; column++) {
            PictureMachine machine = withPlayers(128, column, 0, 0);
            drawn(machine);
            check.due("player 0 at " + column, machine.state(Machines.COLLISIONS_0), due[column % 4]);
            check.due("player 1, which is not there", machine.state(Machines.COLLISIONS_1), 0);
            machine = withPlayers(0, 0, 128, column);
            drawn(machine);
            check.due("player 1 at " + column, machine.state(Machines.COLLISIONS_1), due[column % 4]);
            check.due("player 0, which is not there", machine.state(Machines.COLLISIONS_0), 0);
        }
        PictureMachine both = withPlayers(0b0110_0000, 4, 0b0011_0000, 20);
        drawn(both);
        check.due("player 0 over 1 and 2", both.state(Machines.COLLISIONS_0), 6);
        check.due("player 1 over 2 and 3", both.state(Machines.COLLISIONS_1), 12);
        // It is kept until HIT, whatever is behind it.
        PictureMachine machine = withPlayers(128, 3, 0, 0);
        drawn(machine);
        machine.run(240);
        check.due("player 0 later", machine.state(Machines.COLLISIONS_0), 8);
    }

    private static void collidesInTheLineOnly(Check check) {
        for (int column : new int[] {32, 33, 34, 35, 255}) {
            PictureMachine machine = withPlayers(255, column, 255, column);
            drawn(machine);
            check.due("player 0 at " + column, machine.state(Machines.COLLISIONS_0), 0);
            check.due("player 1 at " + column, machine.state(Machines.COLLISIONS_1), 0);
            check.due("met at " + column, machine.state(Machines.MET), 0);
        }
        PictureMachine machine = withPlayers(0b1000_1000, 0, 0, 0);
        drawn(machine);
        check.due("the bits over colour 0 alone", machine.state(Machines.COLLISIONS_0), 0);
        machine = withPlayers(255, 31, 255, 30);
        drawn(machine);
        check.due("player 0 at 31", machine.state(Machines.COLLISIONS_0), 8);
        check.due("player 1 at 30", machine.state(Machines.COLLISIONS_1), 12);
    }

    private static void playersMeet(Check check) {
        int[][] columns = {{10, 17, 1}, {10, 18, 0}, {17, 10, 1}, {18, 10, 0}, {0, 0, 1}, {31, 24, 1}, {31, 23, 0}};
        for (int[] place : columns) {
            PictureMachine machine = withPlayers(255, place[0], 255, place[1]);
            drawn(machine);
            check.due("met at " + place[0] + " and " + place[1], machine.state(Machines.MET), place[2]);
        }
        PictureMachine machine = withPlayers(0b1010_1010, 4, 0b0101_0101, 4);
        drawn(machine);
        check.due("met without a dot of both", machine.state(Machines.MET), 0);
        machine = withPlayers(128, 4, 128, 4);
        machine.write(0, 0);
        drawn(machine);
        check.due("met over colour 0", machine.state(Machines.MET), 1);
    }

    private static void collisionsStay(Check check) {
        PictureMachine machine = withPlayers(128, 1, 128, 1);
        drawn(machine);
        machine.write(19, 0);
        machine.write(20, 0);
        machine.run(768);
        check.due("player 0 two frames later", machine.state(Machines.COLLISIONS_0), 2);
        check.due("player 1 two frames later", machine.state(Machines.COLLISIONS_1), 2);
        check.due("met two frames later", machine.state(Machines.MET), 1);
    }

    private static void zeroIsBefore(Check check) {
        int[] due = row(PLAYER_1, 10, 17);
        Arrays.fill(due, 6, 14, PLAYER_0);
        same(check, "player 0 at 6, player 1 at 10", drawn(withPlayers(255, 6, 255, 10)), due);
    }

    private static void orderHidesPlayers(Check check) {
        int[] due = row(0, 32, 32);
        due[8] = PLAYER_0;
        due[12] = PLAYER_0;
        due[16] = PLAYER_1;
        PictureMachine machine = withPlayers(255, 8, 255, 12);
        machine.write(17, 1);
        same(check, "ORDER 1", drawn(machine), due);
        check.due("collisions of 0 all the same", machine.state(Machines.COLLISIONS_0), 14);
        check.due("collisions of 1 all the same", machine.state(Machines.COLLISIONS_1), 14);
        check.due("met all the same", machine.state(Machines.MET), 1);
        machine = withPlayers(255, 8, 0, 0);
        machine.write(17, 254);
        same(check, "ORDER 254", drawn(machine), row(PLAYER_0, 8, 15));
        machine = withPlayers(255, 0, 255, 8);
        machine.write(17, 255);
        machine.write(0, 0);
        due = all(100);
        Arrays.fill(due, 0, 8, PLAYER_0);
        Arrays.fill(due, 8, 16, PLAYER_1);
        same(check, "ORDER 255 over colour 0", drawn(machine), due);
    }

    private static void coloursAreThoseOfThen(Check check) {
        PictureMachine machine = withPlayers(128, 4, 128, 9);
        Machines.runTo(machine, 1, 23);
        int[] bytes = {255, 0, 1, 254, 128, 127};
        for (int k = 0; k < bytes.length; k++) {
            machine.write(8 + k, bytes[k]);
        }
        int[] due = new int[32];
        for (int x = 0; x < 32; x++) {
            due[x] = bytes[x % 4];
        }
        due[4] = 128;
        due[9] = 127;
        same(check, "colours written before cycle 23", drawn(machine), due);
        for (int k = 0; k < bytes.length; k++) {
            machine.write(8 + k, 77);
        }
        same(check, "colours written behind it", line(machine, 1), due);
    }
}
