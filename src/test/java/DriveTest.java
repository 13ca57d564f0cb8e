/** The drive: commands, sums, sectors and answers (in the terms before promise 1). */
public final class DriveTest {
    /** LDA SERIAL; STA 0x100 + X; INX; then a wait for the next byte: LDA 8; BEQ back; JMP. */
    private static final int[] READER = {
        0xAD, 0x08, 0x03, 0xF0, 0xFB, 0xAD, 0x07, 0x03, 0x9D, 0x00, 0x01, 0xE8, 0x4C, 0x00, 0x02,
    };

    private final Check check = new Check();

    public static void main(String[] args) {
        DriveTest test = new DriveTest();
        test.reads();
        test.answersComeInOneALine();
        test.stores();
        test.refusesWrongSums();
        test.isSilentToOthers();
        test.refusesUnknownCommands();
        test.makesSums();
        test.gathers();
        test.keepsFortyAnswers();
        test.roomComesAgain();
        test.readsWithoutByte();
        test.check.end();
    }

    private static PictureMachine reader() {
        return Machines.withProgram(READER);
    }

    private void received(String what, PictureMachine machine, int... due) {
        for (int i = 0; i < due.length; i++) {
            check.due(what + ", byte " + i, machine.peek(256 + i), due[i]);
        }
        check.due(what + ", how many", machine.processor(Machines.X), due.length);
    }

    private void reads() {
        PictureMachine machine = reader();
        int[] bytes = {200, 100, 1, 2, 3, 4, 5, 255};
        for (int i = 0; i < 8; i++) {
            machine.disk(8, i, bytes[i]);
        }
        Machines.sendWithSum(machine, 49, 82, 8);
        machine.run(600);
        received("READ", machine, 65, 67, 200, 100, 1, 2, 3, 4, 5, 255, 60);
        check.due("answers left", machine.state(Machines.WAITING), 0);
        check.due("none has come in", machine.state(Machines.CAME_IN), 0);
    }

    private void answersComeInOneALine() {
        PictureMachine machine = Machines.idle();
        Machines.sendWithSum(machine, 49, 82, 1);
        check.due("waiting", machine.state(Machines.WAITING), 11);
        machine.run(23);
        check.due("come in before the end of the line", machine.state(Machines.CAME_IN), 0);
        machine.run(1);
        check.due("come in at the end of the line", machine.state(Machines.CAME_IN), 1);
        check.due("waiting", machine.state(Machines.WAITING), 10);
        machine.run(240);
        check.due("waiting as long as none is taken", machine.state(Machines.WAITING), 10);
        PictureMachine byStore = Machines.withProgram(
            0xA9, 49, 0x8D, 0x17, 0x03, 0xA9, 82, 0x8D, 0x17, 0x03,
            0xA9, 1, 0x8D, 0x17, 0x03, 0xA9, 132, 0x8D, 0x17, 0x03);
        byStore.run(26);
        check.due("waiting, as the processor sends in line 1", byStore.state(Machines.WAITING), 11);
    }

    private void stores() {
        PictureMachine machine = reader();
        Machines.sendWithSum(machine, 49, 87, 1);
        check.due("gathers a sector", machine.state(Machines.GATHERS_SECTOR), 1);
        check.due("gathered", machine.state(Machines.GATHERED), 0);
        check.due("waiting", machine.state(Machines.WAITING), 1);
        Machines.send(machine, 49, 82, 1, 132, 5, 6, 7, 8);
        check.due("gathered", machine.state(Machines.GATHERED), 8);
        check.due("sector(1, 0) before the sum", machine.sector(1, 0), 0);
        Machines.send(machine, Machines.sum(49, 82, 1, 132, 5, 6, 7, 8));
        check.due("sector(1, 0)", machine.sector(1, 0), 49);
        check.due("sector(1, 7)", machine.sector(1, 7), 8);
        check.due("sector(2, 0)", machine.sector(2, 0), 0);
        check.due("gathers a sector", machine.state(Machines.GATHERS_SECTOR), 0);
        check.due("gathered", machine.state(Machines.GATHERED), 0);
        machine.run(200);
        received("WRITE", machine, 65, 65, 67);
    }

    private void refusesWrongSums() {
        PictureMachine machine = reader();
        machine.disk(3, 0, 77);
        Machines.sendWithSum(machine, 49, 87, 3);
        Machines.send(machine, 1, 2, 3, 4, 5, 6, 7, 8, 35);
        check.due("sector(3, 0) stays", machine.sector(3, 0), 77);
        check.due("gathers a sector no more", machine.state(Machines.GATHERS_SECTOR), 0);
        machine.run(200);
        received("a wrong sum of a sector", machine, 65, 78);
    }

    private void isSilentToOthers() {
        PictureMachine machine = Machines.idle();
        Machines.send(machine, 49, 82, 1, 133);
        Machines.sendWithSum(machine, 50, 82, 1);
        Machines.sendWithSum(machine, 48, 87, 1);
        Machines.send(machine, 49, 99, 1, 0);
        Machines.send(machine, 49, 82, 9, 0);
        check.due("waiting", machine.state(Machines.WAITING), 0);
        check.due("gathered", machine.state(Machines.GATHERED), 0);
        check.due("gathers a sector", machine.state(Machines.GATHERS_SECTOR), 0);
    }

    private void refusesUnknownCommands() {
        PictureMachine machine = reader();
        Machines.sendWithSum(machine, 49, 83, 1);
        Machines.sendWithSum(machine, 49, 82, 0);
        Machines.sendWithSum(machine, 49, 82, 9);
        Machines.sendWithSum(machine, 49, 87, 0);
        Machines.sendWithSum(machine, 49, 87, 255);
        check.due("gathers a sector", machine.state(Machines.GATHERS_SECTOR), 0);
        machine.run(300);
        received("refused commands", machine, 78, 78, 78, 78, 78);
    }

    private void makesSums() {
        // 49 + 82 + 124 is 255, which is not above 255; one more makes it 1.
        PictureMachine machine = Machines.idle();
        Machines.send(machine, 49, 82, 124, 255);
        check.due("waiting after the sum 255", machine.state(Machines.WAITING), 1);
        Machines.send(machine, 49, 82, 125, 1);
        check.due("waiting after the sum 1", machine.state(Machines.WAITING), 2);
        Machines.send(machine, 49, 82, 124, 0);
        check.due("waiting after the sum 0", machine.state(Machines.WAITING), 2);
        machine = reader();
        for (int i = 0; i < 8; i++) {
            machine.disk(5, i, 255);
        }
        Machines.sendWithSum(machine, 49, 82, 5);
        machine.run(600);
        check.due("the sum of eight 255", machine.peek(266), 255);
    }

    private void gathers() {
        PictureMachine machine = Machines.idle();
        int[] due = {1, 2, 3, 0, 1};
        for (int i = 0; i < due.length; i++) {
            Machines.send(machine, 49);
            check.due("gathered after " + (i + 1), machine.state(Machines.GATHERED), due[i]);
        }
    }

    private void keepsFortyAnswers() {
        PictureMachine machine = reader();
        machine.write(5, 0);
        machine.disk(1, 0, 9);
        for (int i = 0; i < 3; i++) {
            Machines.sendWithSum(machine, 49, 82, 1);
        }
        check.due("waiting", machine.state(Machines.WAITING), 33);
        Machines.sendWithSum(machine, 49, 82, 1);
        check.due("waiting at most", machine.state(Machines.WAITING), 40);
        Machines.sendWithSum(machine, 49, 87, 1);
        check.due("waiting at most", machine.state(Machines.WAITING), 40);
        check.due("gathers a sector all the same", machine.state(Machines.GATHERS_SECTOR), 1);
        Machines.sendWithSum(machine, 1, 1, 1, 1, 1, 1, 1, 1);
        check.due("sector(1, 0)", machine.sector(1, 0), 1);
        check.due("waiting at most", machine.state(Machines.WAITING), 40);
        machine.run(1000);
        machine.run(200);
        check.due("received", machine.processor(Machines.X), 40);
        check.due("byte 33", machine.peek(256 + 33), 65);
        check.due("byte 35", machine.peek(256 + 35), 9);
        check.due("byte 39, the last one kept", machine.peek(256 + 39), 0);
    }

    private void roomComesAgain() {
        PictureMachine machine = reader();
        int received = 0;
        for (int turn = 0; turn < 9; turn++) {
            machine.disk(2, 7, 100 + turn);
            Machines.sendWithSum(machine, 49, 82, 2);
            machine.run(24 * 12);
            received += 11;
            check.due("received in turn " + turn, machine.processor(Machines.X), received);
            check.due("byte 7 in turn " + turn, machine.peek(256 + received - 2), 100 + turn);
            check.due("the sum in turn " + turn, machine.peek(256 + received - 1), 100 + turn);
        }
    }

    private void readsWithoutByte() {
        PictureMachine machine = Machines.withProgram(0xA9, 5, 0xAD, 0x07, 0x03, 0xAD, 0x08, 0x03, 0x4C, 0x05, 0x02);
        machine.run(6);
        check.due("the byte without one", machine.processor(Machines.A), 0);
        Machines.sendWithSum(machine, 49, 82, 2);
        machine.run(18);
        check.due("whether one has come in, in line 0", machine.processor(Machines.A), 0);
        machine.run(24);
        check.due("whether one has come in, in line 1", machine.processor(Machines.A), 1);
        check.due("that does not take it", machine.state(Machines.CAME_IN), 1);
    }
}
