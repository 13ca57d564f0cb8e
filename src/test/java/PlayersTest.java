import java.util.Arrays;

/** How a line is drawn: dots, players, their order and their collisions (promise 9 and its terms). */
public final class PlayersTest {
    private final Check check = new Check();

    public static void main(String[] args) {
        PlayersTest test = new PlayersTest();
        test.drawsDots();
        test.drawsPlayersAtTheirColumns();
        test.drawsWidePlayers();
        test.playerZeroIsBefore();
        test.orderPutsThePictureBefore();
        test.collidesWithColours();
        test.collidesOnlyWhereItCovers();
        test.meets();
        test.drawsPlayersWithoutPicture();
        test.collisionsStay();
        test.drawsNothingOutsideItsLines();
        test.check.end();
    }

    /** A machine whose line 1 is a row of the mode, with the colours 0 1 2 3 again and again (27 is 00 01 10 11). */
    static PictureMachine overRow(int mode, int shape0, int shape1) {
        PictureMachine machine = Machines.idle();
        Machines.pokeAll(machine, 0x40, 0x40 | mode, 0x80, 0x00, 0x41, 0x40, 0x00);
        Machines.pokeAll(machine, 0x80, 27, 27, 27, 27, 27, 27, 27, 27);
        machine.write(0, 1);
        machine.write(2, 0x40);
        for (int colour = 0; colour < 4; colour++) {
            machine.write(8 + colour, 100 + colour);
        }
        machine.write(12, 50);
        machine.write(13, 60);
        machine.write(19, shape0);
        machine.write(20, shape1);
        return machine;
    }

    private void line(String what, PictureMachine machine, int y, int... due) {
        for (int x = 0; x < 32; x++) {
            check.due(what + ": dot(" + y + ", " + x + ")", machine.dot(y, x), due[x]);
        }
    }

    private static int[] picture() {
        int[] dots = new int[32];
        for (int x = 0; x < 32; x++) {
            dots[x] = 100 + x % 4;
        }
        return dots;
    }

    private static int[] with(int[] dots, int colour, int... columns) {
        int[] changed = dots.clone();
        for (int x : columns) {
            changed[x] = colour;
        }
        return changed;
    }

    private static PictureMachine drawn(PictureMachine machine) {
        Machines.runTo(machine, 2, 0);
        return machine;
    }

    private void drawsDots() {
        PictureMachine machine = overRow(3, 0, 0);
        Machines.pokeAll(machine, 0x80, 0b11_10_01_00, 255, 0, 0b01_01_10_10);
        drawn(machine);
        int[] due = picture();
        System.arraycopy(new int[] {103, 102, 101, 100, 103, 103, 103, 103, 100, 100, 100, 100, 101, 101, 102, 102}, 0,
            due, 0, 16);
        line("dots", machine, 1, due);
    }

    private void drawsPlayersAtTheirColumns() {
        PictureMachine machine = overRow(3, 0b1000_0001, 0b0100_0000);
        machine.write(14, 4);
        machine.write(15, 31);
        line("player 1 beyond the end", drawn(machine), 1, with(picture(), 50, 4, 11));
        machine = overRow(3, 0b1000_0001, 0b0100_0000);
        machine.write(14, 24);
        machine.write(15, 30);
        line("both at the end", drawn(machine), 1, with(with(picture(), 60, 31), 50, 24, 31));
        machine = overRow(3, 255, 255);
        machine.write(14, 32);
        machine.write(15, 255);
        line("both outside", drawn(machine), 1, picture());
        machine = overRow(3, 255, 0);
        machine.write(14, 29);
        line("player 0 over the end", drawn(machine), 1, with(picture(), 50, 29, 30, 31));
    }

    private void drawsWidePlayers() {
        PictureMachine machine = overRow(3, 0b1010_0001, 0b1000_0001);
        machine.write(14, 1);
        machine.write(15, 20);
        machine.write(16, 1);
        int[] due = with(picture(), 50, 1, 2, 5, 6, 15, 16);
        line("player 0 wide", drawn(machine), 1, with(due, 60, 20, 27));
        machine = overRow(3, 0b1010_0001, 0b1000_0011);
        machine.write(14, 1);
        machine.write(15, 17);
        machine.write(16, 2);
        due = with(picture(), 50, 1, 3, 8);
        line("player 1 wide", drawn(machine), 1, with(due, 60, 17, 18, 29, 30, 31));
        machine = overRow(3, 255, 255);
        machine.write(16, 252);
        machine.write(15, 8);
        line("none wide", drawn(machine), 1,
            with(with(picture(), 50, 0, 1, 2, 3, 4, 5, 6, 7), 60, 8, 9, 10, 11, 12, 13, 14, 15));
    }

    private void playerZeroIsBefore() {
        PictureMachine machine = overRow(3, 0b1100_0000, 0b1110_0000);
        machine.write(14, 9);
        machine.write(15, 8);
        line("both", drawn(machine), 1, with(with(picture(), 50, 9, 10), 60, 8));
    }

    private void orderPutsThePictureBefore() {
        PictureMachine machine = overRow(3, 255, 255);
        machine.write(15, 6);
        machine.write(17, 1);
        line("order 1", drawn(machine), 1, with(with(picture(), 50, 0, 4), 60, 8, 12));
        check.due("collisions of 0 all the same", machine.state(Machines.COLLISIONS_0), 0b1110);
        check.due("they meet all the same", machine.state(Machines.MET), 1);
        machine = overRow(3, 255, 0);
        machine.write(17, 254);
        line("order 254", drawn(machine), 1, with(picture(), 50, 0, 1, 2, 3, 4, 5, 6, 7));
    }

    private void collidesWithColours() {
        for (int column = 0; column < 4; column++) {
            PictureMachine machine = overRow(3, 128, 64);
            machine.write(14, column);
            machine.write(15, column + 8);
            drawn(machine);
            int next = (column + 1) % 4;
            check.due("player 0 at " + column, machine.state(Machines.COLLISIONS_0), column == 0 ? 0 : 1 << column);
            check.due("player 1 at " + column, machine.state(Machines.COLLISIONS_1), next == 0 ? 0 : 1 << next);
            check.due("met", machine.state(Machines.MET), 0);
        }
    }

    private void collidesOnlyWhereItCovers() {
        PictureMachine machine = overRow(3, 0b1000_1000, 0);
        drawn(machine);
        check.due("over colour 0 alone", machine.state(Machines.COLLISIONS_0), 0);
        check.due("a player without shape", machine.state(Machines.COLLISIONS_1), 0);
    }

    private void meets() {
        PictureMachine machine = overRow(3, 0b0000_0001, 0b1000_0000);
        machine.write(14, 10);
        machine.write(15, 17);
        drawn(machine);
        check.due("met at 17", machine.state(Machines.MET), 1);
        machine = overRow(3, 0b0000_0001, 0b1000_0000);
        machine.write(14, 10);
        machine.write(15, 18);
        drawn(machine);
        check.due("not met at 18", machine.state(Machines.MET), 0);
        machine = overRow(3, 255, 255);
        machine.write(14, 32);
        machine.write(15, 32);
        drawn(machine);
        check.due("not met outside", machine.state(Machines.MET), 0);
    }

    private void drawsPlayersWithoutPicture() {
        PictureMachine machine = overRow(3, 128, 128);
        machine.write(0, 0);
        machine.write(15, 5);
        drawn(machine);
        int[] due = new int[32];
        Arrays.fill(due, 100);
        line("no picture", machine, 1, with(with(due, 50, 0), 60, 5));
        check.due("no collisions", machine.state(Machines.COLLISIONS_0), 0);
    }

    private void collisionsStay() {
        PictureMachine machine = overRow(3, 64, 0);
        drawn(machine);
        machine.write(19, 0);
        Machines.runTo(machine, 10, 0);
        check.due("collisions in later lines", machine.state(Machines.COLLISIONS_0), 2);
    }

    private void drawsNothingOutsideItsLines() {
        PictureMachine machine = overRow(3, 255, 255);
        machine.run(24);
        check.due("not met in line 0", machine.state(Machines.MET), 0);
        Machines.runTo(machine, 13, 0);
        machine.write(18, 0);
        Machines.runTo(machine, 0, 0);
        machine.run(24);
        check.due("not met in the lines 13 .. 15 and 0", machine.state(Machines.MET), 0);
    }
}
