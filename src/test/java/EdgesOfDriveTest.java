import java.util.Arrays;

/** The boundary cases that the document names for the drive, a test for each sentence. */
public final class EdgesOfDriveTest {
    public static void main(String[] args) {
        Sentences sentences = new Sentences();
        sentences.holds("THE DRIVE has 8 SECTORS, 1 .. 8, of 8 bytes, all 0", EdgesOfDriveTest::hasEightSectors);
        sentences.holds("SUMS: beginning with 0, + each byte, and - 255 whenever that is above 255: commands",
            EdgesOfDriveTest::sumsOfCommands);
        sentences.holds("SUMS: beginning with 0, + each byte, and - 255 whenever that is above 255: READ",
            EdgesOfDriveTest::sumsOfReadSectors);
        sentences.holds("SUMS: beginning with 0, + each byte, and - 255 whenever that is above 255: WRITE",
            EdgesOfDriveTest::sumsOfWrittenSectors);
        sentences.holds("four are a COMMAND", EdgesOfDriveTest::fourAreACommand);
        sentences.holds("If the sum is another one [..], nothing happens", EdgesOfDriveTest::isSilentToWrongSums);
        sentences.holds("[..] or the first is not 49, nothing happens", EdgesOfDriveTest::isSilentToOthers);
        sentences.holds("if the second is neither [..]: 78 is answered", EdgesOfDriveTest::refusesOtherCommands);
        sentences.holds("or there is no such sector: 78 is answered", EdgesOfDriveTest::refusesOtherSectors);
        sentences.holds("READ: 65, 67, the 8 bytes, their sum", EdgesOfDriveTest::reads);
        sentences.holds("WRITE: 65, and then nine bytes are gathered", EdgesOfDriveTest::nineAreASector);
        sentences.holds("if it is right, they are stored, and 65, 67 answered", EdgesOfDriveTest::stores);
        sentences.holds("else 78", EdgesOfDriveTest::refusesWrongSectors);
        sentences.holds("Answers wait in order", EdgesOfDriveTest::answersWaitInOrder);
        sentences.holds("(40 at most; further bytes are lost)", EdgesOfDriveTest::fortyAnswersWait);
        sentences.holds("(40 at most; further bytes are lost): refusals", EdgesOfDriveTest::refusalsAreLostToo);
        sentences.holds("(40 at most; further bytes are lost): of one READ some are kept",
            EdgesOfDriveTest::someOfAReadAreKept);
        sentences.holds("At the end of each line the first of them comes in", EdgesOfDriveTest::comesInAtALinesEnd);
        sentences.holds("if no byte has", EdgesOfDriveTest::comesInIfNoByteHas);
        sentences.end();
    }

    /** A machine whose processor puts the bytes that come in at 256 + X, and counts them by X. */
    private static PictureMachine reader() {
        return Machines.withProgram(
            0xAD, 0x08, 0x03, 0xF0, 0xFB, 0xAD, 0x07, 0x03, 0x9D, 0x00, 0x01, 0xE8, 0x4C, 0x00, 0x02);
    }

    /** All the answers that wait now are to be these. */
    private static void answers(Check check, String what, PictureMachine machine, int... due) {
        check.due(what + ": waiting", machine.state(Machines.WAITING), due.length);
        for (int left = 24 * (due.length + 2); left > 0; left -= 1000) {
            machine.run(Math.min(1000, left));
        }
        check.due(what + ": received", machine.processor(Machines.X), due.length);
        for (int i = 0; i < due.length; i++) {
            check.due(what + ": byte " + i, machine.peek(256 + i), due[i]);
        }
    }

    private static void silent(Check check, String what, PictureMachine machine) {
        check.due(what + ": waiting", machine.state(Machines.WAITING), 0);
        check.due(what + ": gathered", machine.state(Machines.GATHERED), 0);
        check.due(what + ": gathers a sector", machine.state(Machines.GATHERS_SECTOR), 0);
    }

    private static void fill(PictureMachine machine, int sector, int... bytes) {
        for (int i = 0; i < 8; i++) {
            machine.disk(sector, i, bytes[i]);
        }
    }

    private static void hasEightSectors(Check check) {
        PictureMachine machine = new PictureMachine();
        for (int sector = 1; sector <= 8; sector++) {
            for (int i = 0; i < 8; i++) {
                check.due("sector(" + sector + ", " + i + ")", machine.sector(sector, i), 0);
            }
        }
        for (int sector = 1; sector <= 8; sector++) {
            machine = reader();
            fill(machine, sector, 10, 11, 12, 13, 14, 15, 16, 17 + sector);
            Machines.sendWithSum(machine, 49, 82, sector);
            answers(check, "READ " + sector, machine, 65, 67, 10, 11, 12, 13, 14, 15, 16, 17 + sector, 108 + sector);
            machine = new PictureMachine();
            Machines.sendWithSum(machine, 49, 87, sector);
            Machines.sendWithSum(machine, 1, 2, 3, 4, 5, 6, 7, 8);
            for (int other = 1; other <= 8; other++) {
                check.due("sector(" + other + ", 0)", machine.sector(other, 0), other == sector ? 1 : 0);
                check.due("sector(" + other + ", 7)", machine.sector(other, 7), other == sector ? 8 : 0);
            }
        }
    }

    private static void sumsOfCommands(Check check) {
        // 49 + 82 + 124 is 255, which is not above 255; no such sector is there, so that 78 tells a right sum.
        int[][] right = {
            {82, 123, 254}, {82, 124, 255}, {82, 125, 1}, {255, 255, 49}, {206, 0, 255}, {207, 0, 1}, {0, 0, 49},
        };
        for (int[] bytes : right) {
            PictureMachine machine = reader();
            Machines.send(machine, 49, bytes[0], bytes[1], bytes[2]);
            answers(check, "49, " + bytes[0] + ", " + bytes[1] + ", sum " + bytes[2], machine, 78);
        }
        int[][] wrong = {{82, 124, 0}, {82, 125, 0}, {82, 125, 2}, {255, 255, 47}, {255, 255, 48}, {255, 255, 50}};
        for (int[] bytes : wrong) {
            PictureMachine machine = new PictureMachine();
            Machines.send(machine, 49, bytes[0], bytes[1], bytes[2]);
            silent(check, "49, " + bytes[0] + ", " + bytes[1] + ", sum " + bytes[2], machine);
        }
    }

    private static void sumsOfReadSectors(Check check) {
        int[][] sectors = {
            {0, 0, 0, 0, 0, 0, 0, 0, 0}, {255, 0, 0, 0, 0, 0, 0, 0, 255}, {0, 0, 0, 0, 0, 0, 254, 1, 255},
            {255, 1, 0, 0, 0, 0, 0, 0, 1}, {255, 255, 255, 255, 255, 255, 255, 255, 255},
            {128, 128, 128, 128, 128, 128, 128, 128, 4}, {0, 0, 0, 0, 0, 0, 255, 2, 2},
        };
        for (int[] bytes : sectors) {
            PictureMachine machine = reader();
            fill(machine, 4, bytes);
            Machines.sendWithSum(machine, 49, 82, 4);
            answers(check, "READ", machine, 65, 67, bytes[0], bytes[1], bytes[2], bytes[3], bytes[4], bytes[5],
                bytes[6], bytes[7], bytes[8]);
        }
    }

    private static void sumsOfWrittenSectors(Check check) {
        int[][] right = {
            {0, 0, 0, 0, 0, 0, 0, 0, 0}, {255, 0, 0, 0, 0, 0, 0, 0, 255}, {255, 1, 0, 0, 0, 0, 0, 0, 1},
            {255, 255, 255, 255, 255, 255, 255, 255, 255}, {128, 128, 128, 128, 128, 128, 128, 128, 4},
        };
        for (int[] bytes : right) {
            PictureMachine machine = new PictureMachine();
            Machines.sendWithSum(machine, 49, 87, 4);
            Machines.send(machine, bytes);
            check.due("waiting after a right sum " + bytes[8], machine.state(Machines.WAITING), 3);
            check.due("sector(4, 0)", machine.sector(4, 0), bytes[0]);
            check.due("sector(4, 7)", machine.sector(4, 7), bytes[7]);
        }
        int[][] wrong = {
            {255, 0, 0, 0, 0, 0, 0, 0, 0}, {255, 1, 0, 0, 0, 0, 0, 0, 0}, {255, 255, 255, 255, 255, 255, 255, 255, 0},
            {128, 128, 128, 128, 128, 128, 128, 128, 0}, {0, 0, 0, 0, 0, 0, 0, 0, 255}, {1, 0, 0, 0, 0, 0, 0, 1, 1},
        };
        for (int[] bytes : wrong) {
            PictureMachine machine = new PictureMachine();
            Machines.sendWithSum(machine, 49, 87, 4);
            Machines.send(machine, bytes);
            check.due("waiting after a wrong sum " + bytes[8], machine.state(Machines.WAITING), 2);
            check.due("sector(4, 0)", machine.sector(4, 0), 0);
            check.due("sector(4, 7)", machine.sector(4, 7), 0);
        }
    }

    private static void fourAreACommand(Check check) {
        PictureMachine machine = new PictureMachine();
        int[] bytes = {49, 82, 1, 132, 49, 82, 2, 133};
        for (int i = 0; i < bytes.length; i++) {
            check.due("gathered before byte " + i, machine.state(Machines.GATHERED), i % 4);
            check.due("waiting before byte " + i, machine.state(Machines.WAITING), i < 4 ? 0 : 11);
            machine.write(23, bytes[i]);
        }
        check.due("gathered", machine.state(Machines.GATHERED), 0);
        check.due("waiting", machine.state(Machines.WAITING), 22);
        // A command is looked at when it is whole: its fourth byte is not the first of another.
        machine = new PictureMachine();
        Machines.send(machine, 0, 49, 82, 1, 132);
        check.due("gathered behind five", machine.state(Machines.GATHERED), 1);
        check.due("waiting behind five", machine.state(Machines.WAITING), 0);
    }

    private static void isSilentToWrongSums(Check check) {
        int[][] commands = {{82, 1}, {87, 1}, {82, 9}, {82, 0}, {0, 1}, {255, 255}};
        for (int[] command : commands) {
            for (int off : new int[] {1, 254}) {
                PictureMachine machine = new PictureMachine();
                Machines.send(machine, 49, command[0], command[1]);
                Machines.send(machine, (Machines.sum(49, command[0], command[1]) + off) % 256);
                silent(check, "49, " + command[0] + ", " + command[1], machine);
            }
        }
    }

    private static void isSilentToOthers(Check check) {
        for (int first : new int[] {0, 48, 50, 255}) {
            for (int second : new int[] {82, 87, 0}) {
                for (int sector : new int[] {0, 1, 8, 9}) {
                    PictureMachine machine = new PictureMachine();
                    Machines.sendWithSum(machine, first, second, sector);
                    silent(check, first + ", " + second + ", " + sector, machine);
                }
            }
        }
    }

    private static void refusesOtherCommands(Check check) {
        for (int second : new int[] {0, 81, 83, 86, 88, 255}) {
            for (int sector : new int[] {0, 1, 8, 9}) {
                PictureMachine machine = reader();
                Machines.sendWithSum(machine, 49, second, sector);
                check.due("gathers a sector", machine.state(Machines.GATHERS_SECTOR), 0);
                answers(check, "49, " + second + ", " + sector, machine, 78);
            }
        }
    }

    private static void refusesOtherSectors(Check check) {
        for (int second : new int[] {82, 87}) {
            for (int sector : new int[] {0, 9, 10, 128, 255}) {
                PictureMachine machine = reader();
                Machines.sendWithSum(machine, 49, second, sector);
                check.due("gathers a sector", machine.state(Machines.GATHERS_SECTOR), 0);
                answers(check, "49, " + second + ", " + sector, machine, 78);
            }
        }
    }

    private static void reads(Check check) {
        PictureMachine machine = reader();
        Machines.sendWithSum(machine, 49, 82, 8);
        answers(check, "an empty sector", machine, 65, 67, 0, 0, 0, 0, 0, 0, 0, 0, 0);
        check.due("gathers a sector", machine.state(Machines.GATHERS_SECTOR), 0);
        // What is answered is the sector of then.
        machine = reader();
        fill(machine, 1, 1, 2, 3, 4, 5, 6, 7, 8);
        Machines.sendWithSum(machine, 49, 82, 1);
        machine.disk(1, 0, 99);
        answers(check, "READ 1", machine, 65, 67, 1, 2, 3, 4, 5, 6, 7, 8, 36);
    }

    private static void nineAreASector(Check check) {
        PictureMachine machine = new PictureMachine();
        Machines.sendWithSum(machine, 49, 87, 8);
        check.due("waiting", machine.state(Machines.WAITING), 1);
        // Bytes of a command are those of the sector now.
        int[] bytes = {49, 82, 1, 132, 49, 87, 1, 137};
        for (int i = 0; i < bytes.length; i++) {
            check.due("gathered before byte " + i, machine.state(Machines.GATHERED), i);
            machine.write(23, bytes[i]);
            check.due("gathers a sector behind byte " + i, machine.state(Machines.GATHERS_SECTOR), 1);
        }
        check.due("gathered", machine.state(Machines.GATHERED), 8);
        check.due("waiting before the ninth", machine.state(Machines.WAITING), 1);
        check.due("sector(8, 0) before the ninth", machine.sector(8, 0), 0);
        machine.write(23, Machines.sum(bytes));
        check.due("gathered behind the ninth", machine.state(Machines.GATHERED), 0);
        check.due("gathers a sector behind the ninth", machine.state(Machines.GATHERS_SECTOR), 0);
        check.due("sector(8, 0) behind the ninth", machine.sector(8, 0), 49);
    }

    private static void stores(Check check) {
        PictureMachine machine = reader();
        Machines.sendWithSum(machine, 49, 87, 8);
        Machines.sendWithSum(machine, 255, 2, 3, 4, 5, 6, 7, 254);
        check.due("sector(8, 0)", machine.sector(8, 0), 255);
        for (int i = 1; i < 7; i++) {
            check.due("sector(8, " + i + ")", machine.sector(8, i), 1 + i);
        }
        check.due("sector(8, 7)", machine.sector(8, 7), 254);
        answers(check, "WRITE 8", machine, 65, 65, 67);
    }

    private static void refusesWrongSectors(Check check) {
        PictureMachine machine = reader();
        fill(machine, 1, 9, 9, 9, 9, 9, 9, 9, 9);
        Machines.sendWithSum(machine, 49, 87, 1);
        Machines.send(machine, 1, 2, 3, 4, 5, 6, 7, 8, 37);
        for (int i = 0; i < 8; i++) {
            check.due("sector(1, " + i + ")", machine.sector(1, i), 9);
        }
        check.due("gathers a sector", machine.state(Machines.GATHERS_SECTOR), 0);
        check.due("gathered", machine.state(Machines.GATHERED), 0);
        // A command comes next again.
        Machines.sendWithSum(machine, 49, 0, 1);
        answers(check, "a wrong WRITE", machine, 65, 78, 78);
    }

    private static void answersWaitInOrder(Check check) {
        PictureMachine machine = reader();
        Machines.sendWithSum(machine, 49, 87, 1);
        Machines.sendWithSum(machine, 1, 2, 3, 4, 5, 6, 7, 8);
        Machines.sendWithSum(machine, 49, 0, 1);
        Machines.sendWithSum(machine, 49, 82, 1);
        answers(check, "all in order", machine, 65, 65, 67, 78, 65, 67, 1, 2, 3, 4, 5, 6, 7, 8, 36);
        check.due("waiting behind them", machine.state(Machines.WAITING), 0);
        check.due("come in behind them", machine.state(Machines.CAME_IN), 0);
    }

    private static void refuse(PictureMachine machine, int times) {
        for (int i = 0; i < times; i++) {
            Machines.sendWithSum(machine, 49, 0, 1);
        }
    }

    private static void fortyAnswersWait(Check check) {
        PictureMachine machine = new PictureMachine();
        fill(machine, 1, 1, 2, 3, 4, 5, 6, 7, 8);
        int[] due = {11, 22, 33, 40, 40};
        for (int waiting : due) {
            Machines.sendWithSum(machine, 49, 82, 1);
            check.due("waiting", machine.state(Machines.WAITING), waiting);
        }
        // The one that came in waits no more, so that there is room for one again.
        machine.run(24);
        check.due("waiting when one has come in", machine.state(Machines.WAITING), 39);
        Machines.sendWithSum(machine, 49, 82, 1);
        check.due("waiting again", machine.state(Machines.WAITING), 40);
    }

    private static void refusalsAreLostToo(Check check) {
        PictureMachine machine = new PictureMachine();
        refuse(machine, 39);
        check.due("waiting", machine.state(Machines.WAITING), 39);
        refuse(machine, 1);
        check.due("waiting", machine.state(Machines.WAITING), 40);
        refuse(machine, 1);
        check.due("waiting", machine.state(Machines.WAITING), 40);
        // A WRITE is done although its answers are lost.
        Machines.sendWithSum(machine, 49, 87, 2);
        check.due("gathers a sector", machine.state(Machines.GATHERS_SECTOR), 1);
        Machines.sendWithSum(machine, 1, 2, 3, 4, 5, 6, 7, 8);
        check.due("sector(2, 7)", machine.sector(2, 7), 8);
        check.due("waiting", machine.state(Machines.WAITING), 40);
    }

    private static void someOfAReadAreKept(Check check) {
        // 36 answers wait, so that of a READ the first four are kept; behind one that came in, the next has room.
        PictureMachine machine = reader();
        fill(machine, 1, 1, 2, 3, 4, 5, 6, 7, 8);
        machine.write(5, 0);
        refuse(machine, 36);
        Machines.sendWithSum(machine, 49, 82, 1);
        int[] due = new int[40];
        Arrays.fill(due, 78);
        System.arraycopy(new int[] {65, 67, 1, 2}, 0, due, 36, 4);
        answers(check, "36 refusals and a READ", machine, due);
    }

    private static void comesInAtALinesEnd(Check check) {
        PictureMachine machine = new PictureMachine();
        refuse(machine, 3);
        for (int cycle = 0; cycle < 24; cycle++) {
            check.due("come in before cycle " + cycle, machine.state(Machines.CAME_IN), 0);
            machine.run(1);
        }
        check.due("come in at the line's end", machine.state(Machines.CAME_IN), 1);
        check.due("waiting", machine.state(Machines.WAITING), 2);
        // Without an answer nothing comes in.
        machine = new PictureMachine();
        machine.run(1000);
        check.due("come in without an answer", machine.state(Machines.CAME_IN), 0);
        // In each line, below the picture too.
        machine = reader();
        refuse(machine, 17);
        for (int line = 0; line < 16; line++) {
            check.due("waiting before line " + line, machine.state(Machines.WAITING), 17 - line);
            machine.run(24);
        }
        check.due("waiting behind line 15", machine.state(Machines.WAITING), 1);
    }

    private static void comesInIfNoByteHas(Check check) {
        PictureMachine machine = new PictureMachine();
        refuse(machine, 3);
        machine.run(24);
        check.due("waiting when one has come in", machine.state(Machines.WAITING), 2);
        machine.run(1000);
        check.due("waiting as long as it is not taken", machine.state(Machines.WAITING), 2);
        check.due("come in", machine.state(Machines.CAME_IN), 1);
    }
}
