/**
 * A small home computer of the document: a processor, a display that fetches its own list,
 * two players, a timer, a shift register for chance and a disk drive on a serial line.
 */
public final class PictureMachine {
    public static final int NONE = -1;

    private static final int MEMORY_SIZE = 768;
    private static final int REGISTER_COUNT = 32;
    private static final int ADDRESS_MASK = 1023;
    private static final int BYTE_MASK = 255;

    private static final int CYCLES_OF_LINE = 24;
    private static final int LINES_OF_FRAME = 16;
    private static final int LAST_CYCLE = 23;
    private static final int FIRST_SHOWN_LINE = 1;
    private static final int LAST_SHOWN_LINE = 12;
    private static final int LINE_BELOW_PICTURE = 13;
    private static final int MOST_CYCLES = 1000;

    private static final int DOTS_OF_LINE = 32;
    private static final int BYTES_OF_ROW = 8;
    private static final int DOTS_OF_BYTE = 4;

    private static final int SECTORS = 8;
    private static final int SECTOR_SIZE = 8;

    // The registers that are written.
    private static final int CONTROL = 0;
    private static final int LETTERS = 1;
    private static final int LIST_LOWER = 2;
    private static final int LIST_HIGHER = 3;
    private static final int SHAPES = 4;
    private static final int WAIT = 5;
    private static final int MASK = 6;
    private static final int CLEAR = 7;
    private static final int COLOURS = 8;
    private static final int PLAYER_COLOURS = 12;
    private static final int COLUMNS = 14;
    private static final int SIZES = 16;
    private static final int ORDER = 17;
    private static final int HIT = 18;
    private static final int SHAPE_0 = 19;
    private static final int SHAPE_1 = 20;
    private static final int PERIOD = 21;
    private static final int START = 22;
    private static final int SEND = 23;

    private final Board board;
    private final Processor mainProcessor;

    public PictureMachine() {
        board = new Board();
        mainProcessor = new Processor(board);
    }

    public void poke(int a, int b) throws IllegalArgumentException {
        need(isMemory(a) && isByte(b));
        board.memory.put(a, b);
    }

    public int peek(int a) throws IllegalArgumentException {
        need(isMemory(a));
        return board.memory.at(a);
    }

    public void write(int k, int v) throws IllegalArgumentException {
        need(k >= 0 && k < REGISTER_COUNT && isByte(v));
        board.store(MEMORY_SIZE + k, v);
    }

    public void disk(int sector, int i, int b) throws IllegalArgumentException {
        need(isPlaceOnDisk(sector, i) && isByte(b));
        board.drive.putByte(sector, i, b);
    }

    public int sector(int sector, int i) throws IllegalArgumentException {
        need(isPlaceOnDisk(sector, i));
        return board.drive.byteOf(sector, i);
    }

    public void stick(int v) throws IllegalArgumentException {
        need(isByte(v));
        board.stickValue = v;
    }

    public int run(int cycles) throws IllegalArgumentException {
        need(cycles >= 0 && cycles <= MOST_CYCLES);
        int own = 0;
        for (int i = 0; i < cycles; i++) {
            if (passCycle()) {
                own++;
            }
        }
        return own;
    }

    public int dot(int y, int x) throws IndexOutOfBoundsException {
        if (!isShownLine(y) || x < 0 || x >= DOTS_OF_LINE) {
            throw new IndexOutOfBoundsException();
        }
        return board.picture.dotAt(y, x);
    }

    public int processor(int what) {
        return switch (what) {
            case 0 -> mainProcessor.pc;
            case 1 -> mainProcessor.a;
            case 2 -> mainProcessor.x;
            case 3 -> mainProcessor.y;
            case 4 -> mainProcessor.s;
            case 5 -> mainProcessor.flags();
            case 6 -> bit(mainProcessor.jammed);
            case 7 -> bit(board.wires.held);
            case 8 -> bit(board.wires.nmiRequested);
            case 9 -> mainProcessor.cyclesLeft;
            default -> NONE;
        };
    }

    public int state(int what) {
        return switch (what) {
            case 0 -> board.clock.frame;
            case 1 -> board.clock.line;
            case 2 -> board.clock.cycle;
            case 3 -> board.display.listPlace;
            case 4 -> board.display.dataPlace;
            case 5 -> bit(board.display.rests);
            case 6 -> board.display.presentMode();
            case 7 -> board.display.rowsDoneOfPresent();
            case 8 -> board.written[SHAPE_0];
            case 9 -> board.written[SHAPE_1];
            case 10 -> board.display.causes;
            case 11 -> board.picture.collisions[0];
            case 12 -> board.picture.collisions[1];
            case 13 -> bit(board.picture.met);
            case 14 -> board.chance.row;
            case 15 -> board.chance.timer;
            case 16 -> board.chance.sign;
            case 17 -> bit(board.drive.cameIn);
            case 18 -> board.drive.waiting;
            case 19 -> board.drive.gatheredCount;
            case 20 -> bit(board.drive.gathersSector);
            default -> NONE;
        };
    }

    /** One cycle of all parts; whether the processor did one of its own. */
    private boolean passCycle() {
        int line = board.clock.line;
        int cycle = board.clock.cycle;
        boolean taken = board.display.passCycle(line, cycle);
        boolean own = !taken && mainProcessor.passCycle();
        board.chance.passCycle();
        if (cycle == LAST_CYCLE) {
            endLine(line);
        }
        board.clock.moveOn();
        return own;
    }

    private void endLine(int line) {
        if (isShownLine(line)) {
            board.picture.drawLine(line);
            board.display.finishRow();
        }
        board.drive.sendAnswer();
    }

    private static void need(boolean asSaid) {
        if (!asSaid) {
            throw new IllegalArgumentException();
        }
    }

    private static boolean isMemory(int a) {
        return a >= 0 && a < MEMORY_SIZE;
    }

    private static boolean isByte(int v) {
        return v >= 0 && v <= BYTE_MASK;
    }

    private static boolean isPlaceOnDisk(int sector, int i) {
        return sector >= 1 && sector <= SECTORS && i >= 0 && i < SECTOR_SIZE;
    }

    private static boolean isShownLine(int line) {
        return line >= FIRST_SHOWN_LINE && line <= LAST_SHOWN_LINE;
    }

    private static int bit(boolean set) {
        return set ? 1 : 0;
    }

    /** The cycle that comes next. */
    private static final class Clock {
        private int frame;
        private int line;
        private int cycle;

        void moveOn() {
            cycle++;
            if (cycle == CYCLES_OF_LINE) {
                cycle = 0;
                line++;
            }
            if (line == LINES_OF_FRAME) {
                line = 0;
                frame++;
            }
        }
    }

    /** What other parts tell the processor: shared, so that none of them has to know it. */
    private static final class Wires {
        private boolean held;
        private boolean nmiRequested;
    }

    /** The bytes 0 .. 767, as the display's fetches see them. */
    private static final class Memory {
        private final int[] bytes = new int[MEMORY_SIZE];

        int at(int address) {
            int place = address & ADDRESS_MASK;
            return place < MEMORY_SIZE ? bytes[place] : BYTE_MASK;
        }

        void put(int address, int value) {
            int place = address & ADDRESS_MASK;
            if (place < MEMORY_SIZE) {
                bytes[place] = value;
            }
        }
    }

    /** All parts but the processor, and the addresses at which it finds them. */
    private static final class Board {
        private final Clock clock = new Clock();
        private final Wires wires = new Wires();
        private final Memory memory = new Memory();
        private final int[] written = new int[REGISTER_COUNT];
        private final Chance chance;
        private final Display display;
        private final Picture picture;
        private final Drive drive = new Drive();
        private int stickValue;

        Board() {
            chance = new Chance(written);
            display = new Display(memory, written, wires);
            picture = new Picture(display, written);
        }

        int load(int address) {
            int place = address & ADDRESS_MASK;
            if (place < MEMORY_SIZE) {
                return memory.bytes[place];
            }
            return switch (place - MEMORY_SIZE) {
                case 0 -> clock.line;
                case 1 -> display.causes;
                case 2 -> picture.collisions[0];
                case 3 -> picture.collisions[1];
                case 4 -> bit(picture.met);
                case 5 -> chance.row & BYTE_MASK;
                case 6 -> chance.takeSign();
                case 7 -> drive.takeByte();
                case 8 -> bit(drive.cameIn);
                case 9 -> stickValue;
                default -> BYTE_MASK;
            };
        }

        void store(int address, int value) {
            int place = address & ADDRESS_MASK;
            if (place < MEMORY_SIZE) {
                memory.bytes[place] = value;
                return;
            }
            int k = place - MEMORY_SIZE;
            if (k >= REGISTER_COUNT) {
                return;
            }
            written[k] = value;
            switch (k) {
                case WAIT -> wires.held = true;
                case CLEAR -> display.causes = 0;
                case HIT -> picture.forgetCollisions();
                case START -> chance.startTimer();
                case SEND -> drive.gather(value);
                default -> { }
            }
        }
    }

    /** The shift register and the timer. */
    private static final class Chance {
        private final int[] written;
        private int row = 511;
        private int timer;
        private int sign;

        Chance(int[] written) {
            this.written = written;
        }

        void passCycle() {
            int highest = (row ^ (row >> 4)) & 1;
            row = (row >> 1) | (highest << 8);
            timer--;
            if (timer < 0) {
                timer = written[PERIOD];
                sign = 1;
            }
        }

        void startTimer() {
            timer = written[PERIOD];
            sign = 0;
        }

        int takeSign() {
            int taken = sign;
            sign = 0;
            return taken;
        }
    }

    /** The second processor: it reads the list and fetches what is shown. */
    private static final class Display {
        private static final int LETTER_MODE = 2;
        private static final int LAST_DOT_MODE = 4;
        private static final int JUMP_MODE = 1;
        private static final int ADDRESS_BIT = 64;
        private static final int MARK_BIT = 128;
        private static final int PICTURE_CAUSE = 128;
        private static final int BELOW_CAUSE = 64;

        private final Memory memory;
        private final int[] written;
        private final Wires wires;
        private final int[] data = new int[BYTES_OF_ROW];
        private final int[] letterRows = new int[BYTES_OF_ROW];
        private int causes;
        private int listPlace;
        private int dataPlace;
        private int modeByte;
        private int rows;
        private int rowsDone;
        private boolean rests;
        private boolean addressSaid;
        private int lowerByte;

        Display(Memory memory, int[] written, Wires wires) {
            this.memory = memory;
            this.written = written;
            this.wires = wires;
        }

        /** Does what is said for the cycle; whether the processor loses it. */
        boolean passCycle(int line, int cycle) {
            switch (cycle) {
                case 0:
                    beginLine(line);
                    return fetchShape(SHAPE_0, line);
                case 8:
                    requestNmis(line);
                    break;
                case 20:
                case 21:
                    return true;
                case 22:
                    wires.held = false;
                    return false;
                case LAST_CYCLE:
                    return fetchShape(SHAPE_1, LINES_OF_FRAME + line);
                default:
                    break;
            }
            return isShownLine(line) && isOn() && fetchForLine(cycle);
        }

        /** The row is done only if it could be shown: otherwise it comes again. */
        void finishRow() {
            if (!isOn() || !hasRow()) {
                return;
            }
            rowsDone++;
            if (mode() == JUMP_MODE && (modeByte & ADDRESS_BIT) != 0) {
                rests = true;
            }
        }

        /** Byte number 0 .. 7 of what is shown; blank rows are bytes 0, for all their dots are colour 0. */
        int shownByte(int number) {
            if (!isOn() || !hasRow() || !modeHasData()) {
                return 0;
            }
            return mode() == LETTER_MODE ? letterRows[number] : data[number];
        }

        int presentMode() {
            return hasRow() ? mode() : NONE;
        }

        int rowsDoneOfPresent() {
            return hasRow() ? rowsDone : 0;
        }

        private boolean isOn() {
            return (written[CONTROL] & 1) != 0;
        }

        private boolean hasRow() {
            return rowsDone < rows;
        }

        private int mode() {
            return modeByte & 15;
        }

        private boolean modeHasData() {
            return mode() >= LETTER_MODE && mode() <= LAST_DOT_MODE;
        }

        private void beginLine(int line) {
            addressSaid = false;
            if (line == 0) {
                listPlace = (256 * written[LIST_HIGHER] + written[LIST_LOWER]) & ADDRESS_MASK;
                rows = 0;
                rowsDone = 0;
                rests = false;
            }
        }

        private boolean fetchShape(int register, int offset) {
            if ((written[CONTROL] & 2) == 0) {
                return false;
            }
            written[register] = memory.at(256 * written[SHAPES] + offset);
            return true;
        }

        private void requestNmis(int line) {
            if (line == LINE_BELOW_PICTURE) {
                requestNmi(BELOW_CAUSE);
            } else if (isShownLine(line) && isOn() && isInMarkedLastRow()) {
                requestNmi(PICTURE_CAUSE);
            }
        }

        private boolean isInMarkedLastRow() {
            return rowsDone + 1 == rows && (modeByte & MARK_BIT) != 0;
        }

        private void requestNmi(int cause) {
            if ((written[MASK] & cause) != 0) {
                causes |= cause;
                wires.nmiRequested = true;
            }
        }

        /** The fetches of the cycles 1 .. 19. */
        private boolean fetchForLine(int cycle) {
            if (cycle == 1) {
                return beginModeLine();
            }
            if (cycle <= 3) {
                return fetchAddress(cycle == 3);
            }
            if (!hasRow() || !modeHasData()) {
                return false;
            }
            int number = (cycle - 4) / 2;
            return cycle % 2 == 0 ? fetchData(number) : fetchLetterRow(number);
        }

        private boolean beginModeLine() {
            if (hasRow() || rests) {
                return false;
            }
            modeByte = nextOfList();
            rows = rowsOfMode();
            rowsDone = 0;
            addressSaid = mode() == JUMP_MODE || modeHasData() && (modeByte & ADDRESS_BIT) != 0;
            return true;
        }

        private int rowsOfMode() {
            return switch (mode()) {
                case 0 -> ((modeByte >> 4) & 7) + 1;
                case 2 -> 4;
                case 4 -> 2;
                default -> 1;
            };
        }

        private boolean fetchAddress(boolean higher) {
            if (!addressSaid) {
                return false;
            }
            int fetched = nextOfList();
            if (!higher) {
                lowerByte = fetched;
                return true;
            }
            int address = (256 * fetched + lowerByte) & ADDRESS_MASK;
            if (mode() == JUMP_MODE) {
                listPlace = address;
            } else {
                dataPlace = address;
            }
            return true;
        }

        private boolean fetchData(int number) {
            if (rowsDone != 0) {
                return false;
            }
            data[number] = memory.at(dataPlace);
            dataPlace = movedOn(dataPlace);
            return true;
        }

        private boolean fetchLetterRow(int number) {
            if (mode() != LETTER_MODE) {
                return false;
            }
            letterRows[number] = memory.at(256 * written[LETTERS] + 4 * (data[number] & 63) + rowsDone);
            return true;
        }

        private int nextOfList() {
            int fetched = memory.at(listPlace);
            listPlace = movedOn(listPlace);
            return fetched;
        }

        private static int movedOn(int place) {
            return (place & ~BYTE_MASK) | ((place + 1) & BYTE_MASK);
        }
    }

    /** The dots as drawn last, the players on them and their collisions. */
    private static final class Picture {
        private final Display display;
        private final int[] written;
        private final int[] dots = new int[LAST_SHOWN_LINE * DOTS_OF_LINE];
        private final int[] collisions = new int[2];
        private boolean met;

        Picture(Display display, int[] written) {
            this.display = display;
            this.written = written;
        }

        int dotAt(int line, int column) {
            return dots[firstDotOf(line) + column];
        }

        void forgetCollisions() {
            collisions[0] = 0;
            collisions[1] = 0;
            met = false;
        }

        void drawLine(int line) {
            int place = firstDotOf(line);
            for (int number = 0; number < BYTES_OF_ROW; number++) {
                int shown = display.shownByte(number);
                for (int i = 0; i < DOTS_OF_BYTE; i++) {
                    int column = DOTS_OF_BYTE * number + i;
                    int colour = (shown >> (6 - 2 * i)) & 3;
                    dots[place + column] = drawnDot(column, colour);
                }
            }
        }

        private static int firstDotOf(int line) {
            return (line - FIRST_SHOWN_LINE) * DOTS_OF_LINE;
        }

        private int drawnDot(int column, int colour) {
            boolean first = covers(0, column);
            boolean second = covers(1, column);
            if (first) {
                collide(0, colour);
            }
            if (second) {
                collide(1, colour);
            }
            if (first && second) {
                met = true;
            }
            boolean pictureBefore = (written[ORDER] & 1) != 0 && colour != 0;
            if (pictureBefore || !first && !second) {
                return written[COLOURS + colour];
            }
            return written[first ? PLAYER_COLOURS : PLAYER_COLOURS + 1];
        }

        private void collide(int player, int colour) {
            if (colour != 0) {
                collisions[player] |= 1 << colour;
            }
        }

        private boolean covers(int player, int column) {
            int shape = written[SHAPE_0 + player];
            int distance = column - written[COLUMNS + player];
            if (shape == 0 || distance < 0) {
                return false;
            }
            int number = (written[SIZES] >> player & 1) != 0 ? distance / 2 : distance;
            return number < 8 && (shape >> (7 - number) & 1) != 0;
        }
    }

    /** The disk drive, its disk, and the serial line back to the machine. */
    private static final class Drive {
        private static final int MOST_ANSWERS = 40;
        private static final int COMMAND_SIZE = 4;
        private static final int OWN_NAME = 49;
        private static final int READ = 82;
        private static final int WRITE = 87;
        private static final int UNDERSTOOD = 65;
        private static final int DONE = 67;
        private static final int REFUSED = 78;

        private final int[] bytes = new int[SECTORS * SECTOR_SIZE];
        private final int[] gathered = new int[SECTOR_SIZE + 1];
        private final int[] answers = new int[MOST_ANSWERS];
        private int gatheredCount;
        private boolean gathersSector;
        private int sectorToStore = 1;
        private int firstAnswer;
        private int waiting;
        private boolean cameIn;
        private int incoming;

        int byteOf(int number, int i) {
            return bytes[firstByteOf(number) + i];
        }

        void putByte(int number, int i, int value) {
            bytes[firstByteOf(number) + i] = value;
        }

        void gather(int value) {
            gathered[gatheredCount] = value;
            gatheredCount++;
            int due = gathersSector ? SECTOR_SIZE + 1 : COMMAND_SIZE;
            if (gatheredCount < due) {
                return;
            }
            gatheredCount = 0;
            if (gathersSector) {
                storeSector();
            } else {
                obeyCommand();
            }
        }

        /** At the end of a line: the first answer comes in, if there is room for it. */
        void sendAnswer() {
            if (cameIn || waiting == 0) {
                return;
            }
            incoming = answers[firstAnswer];
            firstAnswer = (firstAnswer + 1) % MOST_ANSWERS;
            waiting--;
            cameIn = true;
        }

        int takeByte() {
            int taken = cameIn ? incoming : 0;
            cameIn = false;
            return taken;
        }

        private void obeyCommand() {
            int number = gathered[2];
            if (gathered[0] != OWN_NAME || gathered[3] != sum(gathered, 0, 3)) {
                return;
            }
            boolean isOnDisk = isPlaceOnDisk(number, 0);
            if (isOnDisk && gathered[1] == READ) {
                answer(UNDERSTOOD);
                answer(DONE);
                for (int i = 0; i < SECTOR_SIZE; i++) {
                    answer(bytes[firstByteOf(number) + i]);
                }
                answer(sum(bytes, firstByteOf(number), SECTOR_SIZE));
            } else if (isOnDisk && gathered[1] == WRITE) {
                answer(UNDERSTOOD);
                gathersSector = true;
                sectorToStore = number;
            } else {
                answer(REFUSED);
            }
        }

        private void storeSector() {
            gathersSector = false;
            if (gathered[SECTOR_SIZE] != sum(gathered, 0, SECTOR_SIZE)) {
                answer(REFUSED);
                return;
            }
            System.arraycopy(gathered, 0, bytes, firstByteOf(sectorToStore), SECTOR_SIZE);
            answer(UNDERSTOOD);
            answer(DONE);
        }

        private void answer(int value) {
            if (waiting < MOST_ANSWERS) {
                answers[(firstAnswer + waiting) % MOST_ANSWERS] = value;
                waiting++;
            }
        }

        private static int firstByteOf(int number) {
            return (number - 1) * SECTOR_SIZE;
        }

        private static int sum(int[] row, int from, int count) {
            int total = 0;
            for (int i = from; i < from + count; i++) {
                total += row[i];
                if (total > BYTE_MASK) {
                    total -= BYTE_MASK;
                }
            }
            return total;
        }
    }

    /** The processor: a code is read in an instruction's first cycle, all the rest is done in its last. */
    private static final class Processor {
        private static final int STACK = 256;
        private static final int NMI_CYCLES = 7;
        private static final int NMI_PLACE_LOWER = 760;
        private static final int NMI_PLACE_HIGHER = 761;

        private static final int NEGATIVE_FLAG = 128;
        private static final int ZERO_FLAG = 2;
        private static final int CARRY_FLAG = 1;

        // N is the byte behind the code, Z the memory at that byte, M that at an address, XM at an address + X.
        private static final int LDA_N = 0xA9;
        private static final int LDA_Z = 0xA5;
        private static final int LDA_M = 0xAD;
        private static final int LDA_XM = 0xBD;
        private static final int LDX_N = 0xA2;
        private static final int LDX_Z = 0xA6;
        private static final int LDY_N = 0xA0;
        private static final int STA_Z = 0x85;
        private static final int STA_M = 0x8D;
        private static final int STA_XM = 0x9D;
        private static final int STX_M = 0x8E;
        private static final int ADC_N = 0x69;
        private static final int ADC_Z = 0x65;
        private static final int SBC_N = 0xE9;
        private static final int AND_N = 0x29;
        private static final int ORA_N = 0x09;
        private static final int EOR_N = 0x49;
        private static final int CMP_N = 0xC9;
        private static final int CMP_Z = 0xC5;
        private static final int CPX_N = 0xE0;
        private static final int INX = 0xE8;
        private static final int DEX = 0xCA;
        private static final int INY = 0xC8;
        private static final int DEY = 0x88;
        private static final int INC_Z = 0xE6;
        private static final int DEC_Z = 0xC6;
        private static final int TAX = 0xAA;
        private static final int TXA = 0x8A;
        private static final int PHA = 0x48;
        private static final int PLA = 0x68;
        private static final int CLC = 0x18;
        private static final int SEC = 0x38;
        private static final int BNE = 0xD0;
        private static final int BEQ = 0xF0;
        private static final int BCC = 0x90;
        private static final int BCS = 0xB0;
        private static final int BMI = 0x30;
        private static final int BPL = 0x10;
        private static final int JMP = 0x4C;
        private static final int JSR = 0x20;
        private static final int RTS = 0x60;
        private static final int RTI = 0x40;
        private static final int NOP = 0xEA;

        private final Board board;
        private int pc = 512;
        private int a;
        private int x;
        private int y;
        private int s = 255;
        private boolean negative;
        private boolean zero;
        private boolean carry;
        private boolean jammed;
        private boolean entersNmi;
        private int code;
        private int cyclesLeft;

        Processor(Board board) {
            this.board = board;
        }

        int flags() {
            return (negative ? NEGATIVE_FLAG : 0) | (zero ? ZERO_FLAG : 0) | (carry ? CARRY_FLAG : 0);
        }

        /** Whether a cycle of its own was done. */
        boolean passCycle() {
            if (jammed || board.wires.held) {
                return false;
            }
            if (cyclesLeft == 0) {
                begin();
            }
            cyclesLeft--;
            if (cyclesLeft > 0) {
                return true;
            }
            if (entersNmi) {
                enterNmi();
            } else {
                perform();
            }
            return true;
        }

        private void begin() {
            entersNmi = board.wires.nmiRequested;
            if (entersNmi) {
                cyclesLeft = NMI_CYCLES;
            } else {
                code = board.load(pc);
                cyclesLeft = cyclesOf(code);
            }
        }

        /** Codes that jam have the 2 cycles of the others, too. */
        private static int cyclesOf(int code) {
            return switch (code) {
                case LDA_Z, LDX_Z, STA_Z, ADC_Z, CMP_Z, PHA, JMP -> 3;
                case LDA_M, LDA_XM, STA_M, STX_M, PLA -> 4;
                case STA_XM, INC_Z, DEC_Z -> 5;
                case JSR, RTS, RTI -> 6;
                default -> 2;
            };
        }

        private void enterNmi() {
            pushPlace(pc);
            push(flags());
            pc = (256 * board.memory.at(NMI_PLACE_HIGHER) + board.memory.at(NMI_PLACE_LOWER)) & ADDRESS_MASK;
            board.wires.nmiRequested = false;
        }

        private void perform() {
            pc = (pc + 1) & ADDRESS_MASK;
            switch (code) {
                case LDA_N -> a = result(nextByte());
                case LDA_Z -> a = result(board.load(nextByte()));
                case LDA_M -> a = result(board.load(nextAddress()));
                case LDA_XM -> a = result(board.load(nextAddress() + x));
                case LDX_N -> x = result(nextByte());
                case LDX_Z -> x = result(board.load(nextByte()));
                case LDY_N -> y = result(nextByte());
                case STA_Z -> board.store(nextByte(), a);
                case STA_M -> board.store(nextAddress(), a);
                case STA_XM -> board.store(nextAddress() + x, a);
                case STX_M -> board.store(nextAddress(), x);
                case ADC_N -> add(nextByte());
                case ADC_Z -> add(board.load(nextByte()));
                case SBC_N -> add(BYTE_MASK - nextByte());
                case AND_N -> a = result(a & nextByte());
                case ORA_N -> a = result(a | nextByte());
                case EOR_N -> a = result(a ^ nextByte());
                case CMP_N -> compare(a, nextByte());
                case CMP_Z -> compare(a, board.load(nextByte()));
                case CPX_N -> compare(x, nextByte());
                case INC_Z -> change(nextByte(), 1);
                case DEC_Z -> change(nextByte(), -1);
                case INX -> x = result(x + 1);
                case DEX -> x = result(x - 1);
                case INY -> y = result(y + 1);
                case DEY -> y = result(y - 1);
                case TAX -> x = result(a);
                case TXA -> a = result(x);
                case PHA -> push(a);
                case PLA -> a = result(pull());
                case CLC -> carry = false;
                case SEC -> carry = true;
                case NOP -> { }
                case BNE -> branchIf(!zero);
                case BEQ -> branchIf(zero);
                case BCC -> branchIf(!carry);
                case BCS -> branchIf(carry);
                case BMI -> branchIf(negative);
                case BPL -> branchIf(!negative);
                case JMP -> pc = nextAddress() & ADDRESS_MASK;
                case JSR -> callPart(nextAddress());
                case RTS -> pc = (pullPlace() + 1) & ADDRESS_MASK;
                case RTI -> returnFromNmi();
                default -> jam();
            }
        }

        private void jam() {
            jammed = true;
            // PC has moved behind the code already, but is to stay at it.
            pc = (pc - 1) & ADDRESS_MASK;
        }

        private int nextByte() {
            int read = board.load(pc);
            pc = (pc + 1) & ADDRESS_MASK;
            return read;
        }

        private int nextAddress() {
            int lower = nextByte();
            return lower + 256 * nextByte();
        }

        /** The byte of a value, after N and Z have been set by it. */
        private int result(int value) {
            int kept = value & BYTE_MASK;
            negative = kept >= 128;
            zero = kept == 0;
            return kept;
        }

        private void add(int value) {
            int total = a + value + (carry ? 1 : 0);
            carry = total > BYTE_MASK;
            a = result(total);
        }

        private void compare(int register, int value) {
            result(register - value);
            carry = value <= register;
        }

        private void change(int address, int by) {
            board.memory.put(address, result(board.memory.at(address) + by));
        }

        private void branchIf(boolean taken) {
            int distance = nextByte();
            if (taken) {
                int signed = distance < 128 ? distance : distance - 256;
                pc = (pc + signed) & ADDRESS_MASK;
            }
        }

        private void callPart(int address) {
            pushPlace((pc - 1) & ADDRESS_MASK);
            pc = address & ADDRESS_MASK;
        }

        private void returnFromNmi() {
            int pulled = pull();
            negative = (pulled & NEGATIVE_FLAG) != 0;
            zero = (pulled & ZERO_FLAG) != 0;
            carry = (pulled & CARRY_FLAG) != 0;
            pc = pullPlace() & ADDRESS_MASK;
        }

        private void push(int value) {
            board.memory.put(STACK + s, value);
            s = (s - 1) & BYTE_MASK;
        }

        private void pushPlace(int place) {
            push(place >> 8);
            push(place & BYTE_MASK);
        }

        private int pull() {
            s = (s + 1) & BYTE_MASK;
            return board.memory.at(STACK + s);
        }

        private int pullPlace() {
            int lower = pull();
            return lower + 256 * pull();
        }
    }
}
