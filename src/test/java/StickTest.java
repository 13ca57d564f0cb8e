/** Promise 7: stick. */
public final class StickTest {
    public static void main(String[] args) {
        Check check = new Check();
        PictureMachine machine = Machines.withProgram(0xAD, 0x09, 0x03, 0x4C, 0x00, 0x02);
        check.due("the stick at first", read(machine), 0);
        for (int v : new int[] {1, 255, 0, 128}) {
            machine.stick(v);
            check.due("the stick after stick(" + v + ")", read(machine), v);
        }
        for (int v : new int[] {-1, 256, Integer.MIN_VALUE, Integer.MAX_VALUE}) {
            machine.stick(7);
            check.refuses("stick(" + v + ")", machine, () -> machine.stick(v));
            check.due("the stick after stick(" + v + ")", read(machine), 7);
        }
        check.end();
    }

    /** One turn of the program, which ends with the stick in A. */
    private static int read(PictureMachine machine) {
        machine.run(24);
        return machine.processor(Machines.A);
    }
}
