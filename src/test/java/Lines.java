/** What the tests of the display's lines need: which cycles a line takes, and its dots. */
final class Lines {
    static final String NO_DATA = "pppppppppppppppp";
    static final String DATA = ".p.p.p.p.p.p.p.p";
    static final String LETTERS = "p.p.p.p.p.p.p.p.";
    static final String BOTH = "................";
    static final String END = "..pp";
    static final String NOTHING = "pppp" + NO_DATA + END;
    static final String MODE_BYTE_ALONE = "p.pp" + NO_DATA + END;

    private Lines() {
    }

    /** A machine in line 1 with the display on, this list, and the colours 100 .. 103. */
    static PictureMachine withList(int at, int... list) {
        PictureMachine machine = Machines.idle();
        Machines.pokeAll(machine, at, list);
        machine.write(0, 1);
        machine.write(2, at & 255);
        machine.write(3, at >> 8);
        for (int colour = 0; colour < 4; colour++) {
            machine.write(8 + colour, 100 + colour);
        }
        machine.run(24);
        return machine;
    }

    /** A line's cycles: p where the processor had one, a point where it was taken. */
    static String taken(PictureMachine machine) {
        StringBuilder taken = new StringBuilder();
        for (int cycle = 0; cycle < 24; cycle++) {
            taken.append(machine.run(1) == 1 ? 'p' : '.');
        }
        return taken.toString();
    }

    /** The line that comes next is to take these cycles. */
    static void takes(Check check, String what, PictureMachine machine, String due) {
        check.due(what + ", line " + machine.state(Machines.LINE), taken(machine), due);
    }

    /** The first dots of a line are to be of these colours. */
    static void dots(Check check, String what, PictureMachine machine, int y, int... due) {
        for (int x = 0; x < due.length; x++) {
            check.due(what + ": dot(" + y + ", " + x + ")", machine.dot(y, x), 100 + due[x]);
        }
    }
}
