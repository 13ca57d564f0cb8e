/** Promises 5 and 6: disk and sector. */
public final class DiskTest {
    private static final int[] NO_SECTORS = {-1, 0, 9, Integer.MIN_VALUE, Integer.MAX_VALUE};
    private static final int[] NO_PLACES = {-1, 8, Integer.MIN_VALUE, Integer.MAX_VALUE};
    private static final int[] NO_BYTES = {-1, 256, Integer.MIN_VALUE, Integer.MAX_VALUE};

    public static void main(String[] args) {
        Check check = new Check();
        keepsEachByteApart(check);
        refusesWrongInputs(check);
        isWhatTheDriveReads(check);
        check.end();
    }

    private static void keepsEachByteApart(Check check) {
        PictureMachine machine = new PictureMachine();
        for (int sector = 1; sector <= 8; sector++) {
            for (int i = 0; i < 8; i++) {
                machine.disk(sector, i, 255 - 10 * sector - i);
            }
        }
        for (int sector = 1; sector <= 8; sector++) {
            for (int i = 0; i < 8; i++) {
                check.due("sector(" + sector + ", " + i + ")", machine.sector(sector, i), 255 - 10 * sector - i);
            }
        }
        machine.disk(8, 7, 255);
        machine.disk(1, 0, 0);
        check.due("sector(8, 7)", machine.sector(8, 7), 255);
        check.due("sector(1, 0)", machine.sector(1, 0), 0);
    }

    private static void refusesWrongInputs(Check check) {
        PictureMachine machine = new PictureMachine();
        for (int sector : NO_SECTORS) {
            check.refuses("disk(" + sector + ", 0, 1)", machine, () -> machine.disk(sector, 0, 1));
            check.refuses("sector(" + sector + ", 0)", machine, () -> machine.sector(sector, 0));
        }
        PictureMachine other = new PictureMachine();
        for (int i : NO_PLACES) {
            check.refuses("disk(1, " + i + ", 1)", other, () -> other.disk(1, i, 1));
            check.refuses("sector(8, " + i + ")", other, () -> other.sector(8, i));
        }
        PictureMachine third = new PictureMachine();
        for (int b : NO_BYTES) {
            check.refuses("disk(1, 0, " + b + ")", third, () -> third.disk(1, 0, b));
        }
    }

    private static void isWhatTheDriveReads(Check check) {
        PictureMachine machine = new PictureMachine();
        machine.disk(2, 0, 10);
        Machines.sendWithSum(machine, 49, 87, 2);
        Machines.sendWithSum(machine, 1, 2, 3, 4, 5, 6, 7, 8);
        for (int i = 0; i < 8; i++) {
            check.due("sector(2, " + i + ") after WRITE", machine.sector(2, i), i + 1);
        }
    }
}
