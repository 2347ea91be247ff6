import java.util.Arrays;

/**
 * An editor that is driven by a grammar of keys.
 *
 * <p>Places are held as one number, 100 times the line and the column added, so that they are compared as
 * numbers. All that stands at lines is told at once when lines are put in or taken out (class Places). Keys
 * that are played are not done by calls within calls: what still has to be played lies on a pile (class
 * Player), and ModalPad.drive takes one thing after the other from there.
 */
public final class ModalPad {
    public static final int NONE = -1;
    public static final int NORMAL = 0, INSERT = 1, SIGNS = 2, LINES = 3, RECTS = 4, LINE = 5;
    public static final int SELECTION = 2;

    private static final int ESC = 27, ENTER = 13, BACK = 8, REDO = 18, RECT = 22, OLDER = 15, NEWER = 9;
    private static final int LINE_END = 10;
    private static final int MAX_LINES = 40, MAX_SIGNS = 60, MAX_TAPE = 600, MAX_COUNT = 99;
    private static final int MAX_REGISTER = 3000, MAX_DONE = 800, MAX_PLAYED = 100, MAX_NESTED = 20;
    private static final int MAX_TICKS = 100;
    /** No run of calls comes near to it; it is there so that every loop is seen to end. */
    private static final int FAR = 1000000;

    /** What a register has. */
    private static final int OF_NOTHING = 0, OF_SIGNS = 1, OF_LINES = 2, OF_ROWS = 3;
    /** Keys of commands that are more than one key: the first one's code times 256, and the second one's. */
    private static final int GG = 'g' << 8 | 'g', SWAP = 'g' << 8 | '~', FOLD = 'z' << 8 | 'f';
    private static final int STATE_BEFORE = 'g' << 8 | '-', STATE_BEHIND = 'g' << 8 | '+';
    private static final int SPREAD = 'g' << 8 | 'm';
    private static final int FOLD_OPEN = 'z' << 8 | 'o', FOLD_CLOSE = 'z' << 8 | 'c', FOLD_AWAY = 'z' << 8 | 'd';
    /** What stands for the second key of dd and the like. */
    private static final int WHOLE_LINES = 1;
    /** Marks in the log of what was taken, loaded and set. */
    private static final int LOG_LOAD = 200, LOG_LOADED = 201, LOG_WRAP = 202, LOG_NO_WRAP = 203;

    private final Strip tape = new Strip(0);
    private final Strip log = new Strip(0);
    private final Keyboard board = new Keyboard();
    private final Pad pad = new Pad();
    private int takenKeys = 0;
    /** The pad without maps; made only when it is asked for, and then brought on by what the log has more. */
    private Pad mirror = null;
    private int mirrored = 0;

    public ModalPad() {
    }

    // ---- texts that are loaded

    public int feed(long bytes) throws IllegalArgumentException, IllegalStateException {
        int fresh = 0;
        for (int i = 0; i < 8; i++) {
            int code = byteOf(bytes, i);
            if (code != 0 && code != LINE_END && !isSign(code)) {
                throw new IllegalArgumentException("no sign of a text");
            }
            fresh += code == 0 ? 0 : 1;
        }
        if (tape.size + fresh > MAX_TAPE) {
            throw new IllegalStateException("the tape is full");
        }
        for (int i = 0; i < 8; i++) {
            if (byteOf(bytes, i) != 0) {
                tape.add(byteOf(bytes, i));
            }
        }
        return tape.size;
    }

    public int load() throws IllegalStateException {
        if (!fitsText(tape)) {
            throw new IllegalStateException("no text is that long");
        }
        log.add(LOG_LOAD);
        for (int i = 0; i < tape.size; i++) {
            log.add(tape.at(i));
        }
        log.add(LOG_LOADED);
        board.drop();
        pad.begin(tape);
        tape.clear();
        return pad.text.count;
    }

    // ---- keys

    public int keys(long keys) {
        int ahead = failures();
        for (int i = 0; i < 8; i++) {
            int key = byteOf(keys, i);
            if (isKey(key)) {
                board.type(key);
                drive(pad, false);
            }
        }
        return failures() - ahead;
    }

    public int tick(int ticks) throws IllegalArgumentException {
        if (ticks < 1 || ticks > MAX_TICKS) {
            throw new IllegalArgumentException("1 to 100 ticks");
        }
        int ahead = failures();
        if (board.waitsNoMore(ticks)) {
            board.hurry = true;
            drive(pad, false);
            board.hurry = false;
        }
        return failures() - ahead;
    }

    public int map(int mode, long from, long to, boolean isFinal) throws IllegalArgumentException, IllegalStateException {
        int width = keysIn(from);
        if (mode < NORMAL || mode > SELECTION || width < 1 || width > 4 || keysIn(to) == NONE) {
            throw new IllegalArgumentException("no such map can be");
        }
        if (!board.put(mode, packed(from), packed(to), isFinal)) {
            throw new IllegalStateException("too many maps");
        }
        return board.mapCount;
    }

    public int unmap(int mode, long from) throws IllegalArgumentException, IllegalStateException {
        int width = keysIn(from);
        if (mode < NORMAL || mode > SELECTION || width < 1 || width > 4) {
            throw new IllegalArgumentException("no such map can be");
        }
        if (!board.remove(mode, packed(from))) {
            throw new IllegalStateException("no such map");
        }
        return board.mapCount;
    }

    public boolean setWrap(boolean wraps) {
        boolean was = pad.finder.wrap;
        pad.finder.wrap = wraps;
        log.add(wraps ? LOG_WRAP : LOG_NO_WRAP);
        return was;
    }

    // ---- the text, the cursor

    public int lines() {
        return pad.text.count;
    }

    public int length(int line) throws IndexOutOfBoundsException {
        if (line < 0 || line >= pad.text.count) {
            throw new IndexOutOfBoundsException("no such line");
        }
        return pad.text.sizeOf(line);
    }

    public char sign(int line, int column) throws IndexOutOfBoundsException {
        if (line < 0 || line >= pad.text.count || column < 0 || column >= pad.text.sizeOf(line)) {
            throw new IndexOutOfBoundsException("no such place");
        }
        return (char) pad.text.signAt(line, column);
    }

    public int line() {
        return pad.places.row;
    }

    public int column() {
        return pad.places.col;
    }

    public int mode() {
        return pad.mode;
    }

    public int given() {
        return pad.givenKeys().size;
    }

    public int waiting() {
        return board.size;
    }

    public int cursors() {
        return pad.places.otherCount;
    }

    public int cursorAt(int place) throws IndexOutOfBoundsException {
        if (place < 0 || place >= pad.places.otherCount) {
            throw new IndexOutOfBoundsException("not so many cursors");
        }
        return pad.places.otherAt(place);
    }

    // ---- registers, marks, folds

    public int registerKind(char register) throws IllegalArgumentException {
        if (Registers.indexOf(register) == NONE) {
            throw new IllegalArgumentException("no such register");
        }
        return pad.registers.named(register).kind;
    }

    public int registerLength(char register) throws IllegalArgumentException {
        if (Registers.indexOf(register) == NONE) {
            throw new IllegalArgumentException("no such register");
        }
        return pad.registers.named(register).size;
    }

    public char registerAt(char register, int place) throws IllegalArgumentException, IndexOutOfBoundsException {
        if (Registers.indexOf(register) == NONE) {
            throw new IllegalArgumentException("no such register");
        }
        int sign = pad.registers.named(register).at(place);
        if (sign == NONE) {
            throw new IndexOutOfBoundsException("no such place");
        }
        return (char) sign;
    }

    public int mark(char letter) throws IllegalArgumentException {
        if (letter < 'a' || letter > 'z') {
            throw new IllegalArgumentException("marks are a to z");
        }
        return pad.places.markOf(letter);
    }

    public int folds() {
        return pad.places.foldCount;
    }

    public int foldOf(int line) throws IndexOutOfBoundsException {
        if (line < 0 || line >= pad.text.count) {
            throw new IndexOutOfBoundsException("no such line");
        }
        if (pad.places.closedOver(line) == NONE) {
            return NONE;
        }
        return 100 * pad.places.topOf(line) + pad.places.endOf(line);
    }

    public int jumps() {
        return pad.places.jumpCount;
    }

    // ---- states, and what was done

    public int state() {
        return pad.states.present;
    }

    public int states() {
        return pad.states.count;
    }

    public int parent(int state) throws IndexOutOfBoundsException {
        if (state < 0 || state >= pad.states.count) {
            throw new IndexOutOfBoundsException("no such state");
        }
        return pad.states.cameFrom(state);
    }

    public int failures() {
        return pad.failures + board.tooMany;
    }

    public int taken() {
        return takenKeys;
    }

    public boolean agrees() {
        if (mirror == null) {
            mirror = new Pad();
        }
        drive(mirror, true);
        return pad.isLike(mirror);
    }

    // ---- inside

    /**
     * Has a pad take keys, from the board, or for the mirror from the log, until none comes any more. The work
     * is given out from here, and not from within the pad, so that calls do not go deep.
     */
    private void drive(Pad driven, boolean fromLog) {
        for (int i = 0; i < FAR; i++) {
            int key = fromLog ? nextOfLog(driven) : board.next(driven.mapsThatLook());
            if (key == NONE) {
                return;
            }
            boolean takes = driven.take(key);
            for (int steps = 0; steps < FAR && takes; steps++) {
                int work = driven.nextWork();
                if (work == Pad.NOTHING) {
                    break;
                }
                boolean fine = work == Pad.PLAIN ? driven.doPlain() : work == Pad.OPERATED ? driven.doOperator()
                    : work == Pad.SELECTED ? driven.doSelected() : work != Pad.OF_LINE || driven.liner.run();
                if (driven.turn == NONE) {
                    driven.endWork(work, fine);
                } else {
                    driven.endTurn(work, fine);
                }
            }
            driven.settle();
            if (!fromLog) {
                keep(key, takes);
            }
        }
    }

    /** Keeps for the mirror what the pad has taken; what is passed over changes nothing there either. */
    private void keep(int key, boolean takes) {
        takenKeys++;
        if (takes) {
            log.add(key);
        }
        if (pad.failed) {
            board.dropMapped();
        }
    }

    /** The next key of the log, NONE at its end; what was loaded and set ahead of it is done. */
    private int nextOfLog(Pad driven) {
        while (mirrored < log.size) {
            int entry = log.at(mirrored);
            mirrored++;
            if (entry == LOG_LOAD) {
                int end = log.find(LOG_LOADED, mirrored);
                Strip loaded = new Strip(0);
                loaded.partOf(log, mirrored, end);
                driven.begin(loaded);
                mirrored = end == NONE ? log.size : end + 1;
            } else if (entry == LOG_WRAP || entry == LOG_NO_WRAP) {
                driven.finder.wrap = entry == LOG_WRAP;
            } else {
                return entry;
            }
        }
        return NONE;
    }

    private static boolean fitsText(Strip signs) {
        int rows = 1;
        int wide = 0;
        for (int i = 0; i < signs.size; i++) {
            wide = signs.at(i) == LINE_END ? 0 : wide + 1;
            rows += signs.at(i) == LINE_END ? 1 : 0;
            if (wide > MAX_SIGNS || rows > MAX_LINES) {
                return false;
            }
        }
        return true;
    }

    private static int byteOf(long bytes, int index) {
        return (int) (bytes >>> (8 * index)) & 255;
    }

    /** How many keys these are, 0 being left out; NONE if there is one that is no key. */
    private static int keysIn(long keys) {
        int count = 0;
        for (int i = 0; i < 8; i++) {
            int key = byteOf(keys, i);
            if (key != 0 && !isKey(key)) {
                return NONE;
            }
            count += key == 0 ? 0 : 1;
        }
        return count;
    }

    private static long packed(long keys) {
        long packed = 0;
        int at = 0;
        for (int i = 0; i < 8; i++) {
            long key = byteOf(keys, i);
            if (key != 0) {
                packed |= key << (8 * at);
                at++;
            }
        }
        return packed;
    }

    private static boolean isSign(int code) {
        return code >= 32 && code <= 126;
    }

    private static boolean isKey(int code) {
        return isSign(code) || code == ESC || code == ENTER || code == BACK || code == REDO || code == RECT
            || code == OLDER || code == NEWER;
    }

    private static boolean isLetter(int code) {
        return code >= 'a' && code <= 'z';
    }

    private static boolean isCapital(int code) {
        return code >= 'A' && code <= 'Z';
    }

    /** Signs in a row, their line ends with the code 10; it grows as they come. */
    private static final class Strip {
        private static final int MOST = 16384;

        char[] signs;
        int size = 0;
        int kind = OF_NOTHING;

        Strip(int room) {
            signs = new char[room < 0 ? 0 : room];
        }

        void clear() {
            size = 0;
            kind = OF_NOTHING;
        }

        boolean add(int sign) {
            if (size >= MOST) {
                return false;
            }
            if (size >= signs.length) {
                char[] wider = new char[2 * size + 16];
                System.arraycopy(signs, 0, wider, 0, size);
                signs = wider;
            }
            signs[size] = (char) sign;
            size++;
            return true;
        }

        void dropLast() {
            if (size > 0) {
                size--;
            }
        }

        int at(int place) {
            return place < 0 || place >= size ? NONE : signs[place];
        }

        /** Becomes the first signs of another one, at most so many. */
        void copyOf(Strip other, int most) {
            int wanted = Math.max(0, Math.min(other.size, most));
            if (signs.length < wanted) {
                signs = new char[wanted];
            }
            System.arraycopy(other.signs, 0, signs, 0, wanted);
            size = wanted;
            kind = other.kind;
        }

        /** Becomes what another one has from a place on, to one that is not included. */
        void partOf(Strip other, int from, int to) {
            int begin = Math.max(0, from);
            int wanted = Math.max(0, Math.min(to, other.size) - begin);
            if (signs.length < wanted) {
                signs = new char[wanted];
            }
            System.arraycopy(other.signs, Math.min(begin, other.size), signs, 0, wanted);
            size = wanted;
            kind = OF_NOTHING;
        }

        int count(int sign) {
            int count = 0;
            for (int i = 0; i < size; i++) {
                count += signs[i] == sign ? 1 : 0;
            }
            return count;
        }

        /** Where a sign stands next, from a place on; NONE without one. */
        int find(int sign, int from) {
            for (int i = Math.max(0, from); i < size; i++) {
                if (signs[i] == sign) {
                    return i;
                }
            }
            return NONE;
        }

        boolean isLike(Strip other) {
            if (size != other.size || kind != other.kind) {
                return false;
            }
            for (int i = 0; i < size; i++) {
                if (signs[i] != other.signs[i]) {
                    return false;
                }
            }
            return true;
        }
    }

    /** The keys that wait for maps, and the maps. */
    private static final class Keyboard {
        private static final int MAX_MAPS = 12, MAX_CAME = 200, PATIENCE = 5, ROOM = 512;
        private static final int TYPED = 0, MAPPED = 1, FINAL = 2;

        private final int[] modes = new int[MAX_MAPS];
        private final long[] froms = new long[MAX_MAPS];
        private final long[] tos = new long[MAX_MAPS];
        private final boolean[] finals = new boolean[MAX_MAPS];
        int mapCount = 0;
        private final int[] queue = new int[ROOM];
        private final int[] origins = new int[ROOM];
        int size = 0;
        /** Keys that came from maps since the key that was typed last. */
        private int came = 0;
        private int ticks = 0;
        /** Whether nothing waits any more. */
        boolean hurry = false;
        /** How often keys were dropped as too many came from maps. */
        int tooMany = 0;

        boolean put(int mode, long from, long to, boolean isFinal) {
            int at = indexOf(mode, from);
            if (at == NONE) {
                at = mapCount;
            }
            if (at >= MAX_MAPS) {
                return false;
            }
            modes[at] = mode;
            froms[at] = from;
            tos[at] = to;
            finals[at] = isFinal;
            mapCount = Math.max(mapCount, at + 1);
            return true;
        }

        boolean remove(int mode, long from) {
            int at = indexOf(mode, from);
            if (at == NONE) {
                return false;
            }
            mapCount--;
            modes[at] = modes[mapCount];
            froms[at] = froms[mapCount];
            tos[at] = tos[mapCount];
            finals[at] = finals[mapCount];
            return true;
        }

        private int indexOf(int mode, long from) {
            for (int i = 0; i < mapCount; i++) {
                if (modes[i] == mode && froms[i] == from) {
                    return i;
                }
            }
            return NONE;
        }

        void type(int key) {
            if (size < ROOM) {
                queue[size] = key;
                origins[size] = TYPED;
                size++;
            }
            came = 0;
            ticks = 0;
        }

        boolean waitsNoMore(int more) {
            ticks = Math.min(PATIENCE, ticks + more);
            return ticks >= PATIENCE && size > 0;
        }

        void drop() {
            size = 0;
        }

        /** The next key to be taken, with the maps of a mode looking (NONE: no maps); NONE if none is. */
        int next(int mode) {
            for (int i = 0; i < FAR && size > 0; i++) {
                if (mode == NONE || origins[0] == FINAL) {
                    return first();
                }
                int seen = 1;
                while (seen < size && isAheadOfLonger(mode, seen)) {
                    seen++;
                }
                if (!hurry && isAheadOfLonger(mode, seen)) {
                    return NONE;
                }
                int best = longest(mode, seen);
                if (best == NONE) {
                    return first();
                }
                follow(best);
            }
            return NONE;
        }

        private int first() {
            int key = queue[0];
            cutOff(1);
            return key;
        }

        private void cutOff(int count) {
            int gone = Math.max(0, Math.min(count, size));
            System.arraycopy(queue, gone, queue, 0, size - gone);
            System.arraycopy(origins, gone, origins, 0, size - gone);
            size -= gone;
        }

        private boolean isAheadOfLonger(int mode, int seen) {
            for (int i = 0; i < mapCount; i++) {
                if (modes[i] == mode && width(froms[i]) > seen && begins(froms[i], seen)) {
                    return true;
                }
            }
            return false;
        }

        private int longest(int mode, int seen) {
            int best = NONE;
            for (int i = 0; i < mapCount; i++) {
                int width = width(froms[i]);
                if (modes[i] == mode && width <= seen && begins(froms[i], width)
                        && (best == NONE || width > width(froms[best]))) {
                    best = i;
                }
            }
            return best;
        }

        private boolean begins(long from, int count) {
            for (int i = 0; i < count; i++) {
                if (i >= size || queue[i] != byteOf(from, i)) {
                    return false;
                }
            }
            return true;
        }

        private static int width(long keys) {
            int width = 0;
            while (width < 8 && byteOf(keys, width) != 0) {
                width++;
            }
            return width;
        }

        /** Puts what a map leads to in place of its keys, or drops all if it would be too much. */
        private void follow(int map) {
            cutOff(width(froms[map]));
            int more = width(tos[map]);
            if (came + more > MAX_CAME || size + more > ROOM) {
                tooMany++;
                dropMapped();
                return;
            }
            came += more;
            System.arraycopy(queue, 0, queue, more, size);
            System.arraycopy(origins, 0, origins, more, size);
            for (int i = 0; i < more; i++) {
                queue[i] = byteOf(tos[map], i);
                origins[i] = finals[map] ? FINAL : MAPPED;
            }
            size += more;
        }

        void dropMapped() {
            int kept = 0;
            for (int i = 0; i < size; i++) {
                if (origins[i] == TYPED) {
                    queue[kept] = queue[i];
                    origins[kept] = TYPED;
                    kept++;
                }
            }
            size = kept;
        }
    }

    /** The text, or one that is kept. A line has a name of its own as long as it is there. */
    private static final class Text {
        static final int BLANK = 0, WORD = 1, OTHER = 2;

        private final char[] cells = new char[MAX_LINES * MAX_SIGNS];
        private final int[] sizes = new int[MAX_LINES];
        private final int[] names = new int[MAX_LINES];
        private int lastName = 0;
        /** What stands at the lines; null for a text that is kept. */
        private final Places places;
        int count = 1;

        Text(Places places) {
            this.places = places;
        }

        int sizeOf(int row) {
            return row < 0 || row >= count ? 0 : sizes[row];
        }

        /** The sign at a place, 0 if there is none. */
        int signAt(int row, int col) {
            return row < 0 || row >= count || col < 0 || col >= sizes[row] ? 0 : cells[row * MAX_SIGNS + col];
        }

        int kindAt(int row, int col) {
            if (row < 0 || row >= count || col < 0 || col >= sizes[row]) {
                return NONE;
            }
            char sign = cells[row * MAX_SIGNS + col];
            if (sign == ' ') {
                return BLANK;
            }
            boolean word = sign >= 'a' && sign <= 'z' || sign >= 'A' && sign <= 'Z' || sign >= '0' && sign <= '9'
                || sign == '_';
            return word ? WORD : OTHER;
        }

        /** The column of the first sign that is no blank, of the last one without; 0 of an empty line. */
        int firstSign(int row) {
            if (row < 0 || row >= count) {
                return 0;
            }
            int col = 0;
            while (col < sizes[row] - 1 && cells[row * MAX_SIGNS + col] == ' ') {
                col++;
            }
            return col;
        }

        /** How many blanks a line begins with. */
        int blanks(int row) {
            int size = sizeOf(row);
            int col = 0;
            while (col < size && cells[row * MAX_SIGNS + col] == ' ') {
                col++;
            }
            return col;
        }

        int nameOf(int row) {
            return row < 0 || row >= count ? NONE : names[row];
        }

        int rowNamed(int name) {
            for (int row = 0; row < count; row++) {
                if (names[row] == name) {
                    return row;
                }
            }
            return NONE;
        }

        boolean isLike(Text other) {
            return firstDifference(other) == NONE;
        }

        /** The first line that differs, or that only one of both has; NONE without. */
        int firstDifference(Text other) {
            for (int row = 0; row < count && row < other.count; row++) {
                if (sizes[row] != other.sizes[row]) {
                    return row;
                }
                for (int i = row * MAX_SIGNS; i < row * MAX_SIGNS + sizes[row]; i++) {
                    if (cells[i] != other.cells[i]) {
                        return row;
                    }
                }
            }
            return count == other.count ? NONE : Math.min(count, other.count);
        }

        void copyOf(Text other) {
            System.arraycopy(other.cells, 0, cells, 0, cells.length);
            System.arraycopy(other.sizes, 0, sizes, 0, sizes.length);
            count = other.count;
            for (int row = 0; row < count; row++) {
                lastName++;
                names[row] = lastName;
            }
        }

        /** Becomes the text of signs that fit. */
        void read(Strip signs) {
            count = 1;
            sizes[0] = 0;
            for (int i = 0; i < signs.size; i++) {
                int row = count - 1;
                if (signs.signs[i] == LINE_END && count < MAX_LINES) {
                    sizes[count] = 0;
                    count++;
                } else if (sizes[row] < MAX_SIGNS) {
                    cells[row * MAX_SIGNS + sizes[row]] = signs.signs[i];
                    sizes[row]++;
                }
            }
            for (int row = 0; row < count; row++) {
                lastName++;
                names[row] = lastName;
            }
        }

        /** Puts empty lines in, ahead of a line. */
        void openLines(int at, int more) {
            if (at < 0 || at > count || more < 1 || count + more > MAX_LINES) {
                return;
            }
            int moved = count - at;
            System.arraycopy(cells, at * MAX_SIGNS, cells, (at + more) * MAX_SIGNS, moved * MAX_SIGNS);
            System.arraycopy(sizes, at, sizes, at + more, moved);
            System.arraycopy(names, at, names, at + more, moved);
            for (int row = at; row < at + more; row++) {
                sizes[row] = 0;
                lastName++;
                names[row] = lastName;
            }
            count += more;
            if (places != null) {
                places.linesPut(at, more);
            }
        }

        /** Takes lines out; when none is left, there is an empty one. */
        void dropLines(int at, int gone) {
            if (at < 0 || gone < 1 || at + gone > count) {
                return;
            }
            int moved = count - at - gone;
            System.arraycopy(cells, (at + gone) * MAX_SIGNS, cells, at * MAX_SIGNS, moved * MAX_SIGNS);
            System.arraycopy(sizes, at + gone, sizes, at, moved);
            System.arraycopy(names, at + gone, names, at, moved);
            count -= gone;
            if (count == 0) {
                count = 1;
                sizes[0] = 0;
                lastName++;
                names[0] = lastName;
            }
            if (places != null) {
                places.linesGone(at, gone, count);
            }
        }

        /** Makes lines new ones, as if they were taken out and put in; what they have stays to be overwritten. */
        void renewLines(int at, int many) {
            if (at < 0 || many < 1 || at + many > count) {
                return;
            }
            for (int row = at; row < at + many; row++) {
                lastName++;
                names[row] = lastName;
            }
            if (places != null) {
                places.linesGone(at, many, count);
                places.linesPut(at, many);
            }
        }

        void clearLine(int row) {
            if (row >= 0 && row < count) {
                sizes[row] = 0;
            }
        }

        void copyLine(int row, Text other, int from) {
            if (row >= 0 && row < count && from >= 0 && from < other.count) {
                System.arraycopy(other.cells, from * MAX_SIGNS, cells, row * MAX_SIGNS, MAX_SIGNS);
                sizes[row] = other.sizes[from];
            }
        }

        void setSign(int row, int col, int sign) {
            if (row >= 0 && row < count && col >= 0 && col < sizes[row]) {
                cells[row * MAX_SIGNS + col] = (char) sign;
            }
        }

        /** Puts a sign some times at a column; a shorter line is filled up with blanks to there. */
        void putSigns(int row, int col, int sign, int many) {
            if (row < 0 || row >= count || col < 0 || many < 0) {
                return;
            }
            int old = sizes[row];
            if (Math.max(old, col) + many > MAX_SIGNS) {
                return;
            }
            int begin = row * MAX_SIGNS;
            if (col < old) {
                System.arraycopy(cells, begin + col, cells, begin + col + many, old - col);
            }
            for (int i = Math.min(old, col); i < col + many; i++) {
                cells[begin + i] = i < col ? ' ' : (char) sign;
            }
            sizes[row] = Math.max(old, col) + many;
        }

        /** Takes away the signs of a line from a column on, to one that is not included. */
        void cut(int row, int from, int to) {
            if (row < 0 || row >= count || from < 0 || to > sizes[row] || from >= to) {
                return;
            }
            int begin = row * MAX_SIGNS;
            System.arraycopy(cells, begin + to, cells, begin + from, sizes[row] - to);
            sizes[row] -= to - from;
        }

        /** Moves what a line has from a column on to the end of another line. */
        void moveTail(int row, int col, int into) {
            if (row < 0 || row >= count || into < 0 || into >= count || row == into || col < 0 || col > sizes[row]) {
                return;
            }
            int tail = sizes[row] - col;
            if (sizes[into] + tail > MAX_SIGNS) {
                return;
            }
            System.arraycopy(cells, row * MAX_SIGNS + col, cells, into * MAX_SIGNS + sizes[into], tail);
            sizes[into] += tail;
            sizes[row] = col;
        }

        /** Compares two lines sign by sign. */
        int compareLines(int row, int other) {
            int shorter = Math.min(sizeOf(row), sizeOf(other));
            for (int col = 0; col < shorter; col++) {
                int difference = cells[row * MAX_SIGNS + col] - cells[other * MAX_SIGNS + col];
                if (difference != 0) {
                    return difference;
                }
            }
            return sizeOf(row) - sizeOf(other);
        }

        /** Whether signs stand in a line from a column on. */
        boolean hasAt(int row, int col, Strip signs) {
            if (row < 0 || row >= count || col < 0 || col + signs.size > sizes[row]) {
                return false;
            }
            for (int i = 0; i < signs.size; i++) {
                if (cells[row * MAX_SIGNS + col + i] != signs.signs[i]) {
                    return false;
                }
            }
            return true;
        }

        /** The first column from one on at which signs stand in a line, NONE without. */
        int findIn(int row, int from, Strip signs) {
            int last = sizeOf(row) - signs.size;
            for (int col = Math.max(0, from); col <= last; col++) {
                if (hasAt(row, col, signs)) {
                    return col;
                }
            }
            return NONE;
        }

        /** The last column ahead of one, and not ahead of another one, at which signs stand in a line. */
        int findBack(int row, int ahead, int least, Strip signs) {
            int last = Math.min(ahead - 1, sizeOf(row) - signs.size);
            for (int col = last; col >= Math.max(0, least); col--) {
                if (hasAt(row, col, signs)) {
                    return col;
                }
            }
            return NONE;
        }

        /** Puts the signs from a place to one that is not included behind what a strip has. */
        void copyTo(int from, int to, Strip out) {
            for (int row = from / 100; row <= to / 100 && row < count; row++) {
                int end = row == to / 100 ? Math.min(to % 100, sizes[row]) : sizes[row];
                for (int col = row == from / 100 ? from % 100 : 0; col < end; col++) {
                    out.add(cells[row * MAX_SIGNS + col]);
                }
                if (row < to / 100) {
                    out.add(LINE_END);
                }
            }
        }
    }

    /** The cursor, and all that stands at lines and moves with them. */
    private static final class Places {
        /** The wanted column that is the last one of each line. */
        static final int LAST_COLUMN = 1000;
        private static final int MAX_JUMPS = 10, MAX_OTHERS = 9, MAX_FOLDS = 700;

        int row = 0;
        int col = 0;
        int wanted = 0;
        /** Where the selection began. */
        int anchor = 0;
        private final int[] marks = new int[26];
        private final int[] jumps = new int[MAX_JUMPS];
        int jumpCount = 0;
        /** The place of jumps that was gone to last; NONE without one since the newest one was kept. */
        private int jumpAt = NONE;
        /** The further cursors, in their order; while a command is done NONE for one that is gone. */
        final int[] others = new int[MAX_OTHERS];
        int otherCount = 0;
        /** The main cursor while a command is done at the others, and its wanted column. */
        int home = NONE;
        int homeWanted = 0;
        private final int[] foldTops = new int[MAX_FOLDS];
        private final int[] foldEnds = new int[MAX_FOLDS];
        private final boolean[] foldClosed = new boolean[MAX_FOLDS];
        int foldCount = 0;

        Places() {
            Arrays.fill(marks, NONE);
        }

        /** Drops all, as for a new text. */
        void clear() {
            row = 0;
            col = 0;
            wanted = 0;
            Arrays.fill(marks, NONE);
            jumpCount = 0;
            jumpAt = NONE;
            otherCount = 0;
            home = NONE;
            foldCount = 0;
        }

        int here() {
            return row * 100 + col;
        }

        /** Brings the cursor to a place, or to the last column if the line is shorter. */
        void go(Text text, int toRow, int toCol) {
            row = Math.max(0, Math.min(toRow, text.count - 1));
            col = Math.max(0, Math.min(toCol, text.sizeOf(row) - 1));
            wanted = col;
        }

        /** Brings the cursor to the first sign of a line that is no blank. */
        void goToText(Text text, int toRow) {
            row = Math.max(0, Math.min(toRow, text.count - 1));
            col = text.firstSign(row);
            wanted = col;
        }

        /** Brings the cursor to a line, in the wanted column. */
        void goWanted(Text text, int toRow) {
            row = Math.max(0, Math.min(toRow, text.count - 1));
            col = Math.max(0, Math.min(wanted, text.sizeOf(row) - 1));
        }

        /** Puts the cursor where one stands that inserts. */
        void put(int toRow, int toCol) {
            row = toRow;
            col = toCol;
            wanted = toCol;
        }

        /** Holds the cursor on the first line of a closed fold, and in its line. */
        void hold(Text text) {
            col = Math.max(0, Math.min(col, text.sizeOf(row) - 1));
            int top = topOf(row);
            if (top != row) {
                row = top;
                col = Math.max(0, Math.min(col, text.sizeOf(row) - 1));
            }
        }

        int markOf(int letter) {
            return letter < 'a' || letter > 'z' ? NONE : marks[letter - 'a'];
        }

        void setMark(int letter) {
            if (letter >= 'a' && letter <= 'z') {
                marks[letter - 'a'] = row * 100 + col;
            }
        }

        /** Keeps a place as the newest one of the jumps. */
        void keepJump(int place) {
            int kept = 0;
            for (int i = 0; i < jumpCount; i++) {
                if (jumps[i] / 100 != place / 100) {
                    jumps[kept] = jumps[i];
                    kept++;
                }
            }
            if (kept == MAX_JUMPS) {
                System.arraycopy(jumps, 1, jumps, 0, MAX_JUMPS - 1);
                kept--;
            }
            jumps[kept] = place;
            jumpCount = kept + 1;
            jumpAt = NONE;
        }

        /** Goes to an older place of the jumps; false if there is none. */
        boolean goOlder(Text text, int many) {
            int from = jumpAt;
            if (from == NONE) {
                int kept = 0;
                for (int i = 0; i < jumpCount; i++) {
                    kept += jumps[i] / 100 == row ? 0 : 1;
                }
                from = Math.min(kept, MAX_JUMPS - 1);
            }
            if (from - many < 0) {
                return false;
            }
            if (jumpAt == NONE) {
                keepJump(here());
            }
            return goToJump(text, from - many);
        }

        boolean goNewer(Text text, int many) {
            return jumpAt != NONE && goToJump(text, jumpAt + many);
        }

        private boolean goToJump(Text text, int at) {
            if (at < 0 || at >= jumpCount) {
                return false;
            }
            jumpAt = at;
            go(text, jumps[at] / 100, jumps[at] % 100);
            return true;
        }

        int otherAt(int place) {
            return place < 0 || place >= otherCount ? NONE : others[place];
        }

        void addOther(int place) {
            if (otherCount < MAX_OTHERS) {
                others[otherCount] = place;
                otherCount++;
            }
        }

        /** Puts the further cursors in the order of their places, without those that are gone, each place once. */
        void orderOthers(int main) {
            int kept = 0;
            for (int i = 0; i < otherCount; i++) {
                int place = others[i];
                int at = kept;
                while (at > 0 && others[at - 1] >= place) {
                    at--;
                }
                if (place == NONE || place == main || at < kept && others[at] == place) {
                    continue;
                }
                System.arraycopy(others, at, others, at + 1, kept - at);
                others[at] = place;
                kept++;
            }
            otherCount = kept;
        }

        void cutOthers(Text text) {
            for (int i = 0; i < otherCount; i++) {
                if (others[i] != NONE) {
                    int last = Math.max(0, text.sizeOf(others[i] / 100) - 1);
                    others[i] = others[i] / 100 * 100 + Math.min(others[i] % 100, last);
                }
            }
        }

        /** The outermost closed fold that a line is in, NONE without. */
        int closedOver(int line) {
            int outermost = NONE;
            for (int i = 0; i < foldCount; i++) {
                if (foldClosed[i] && foldTops[i] <= line && line <= foldEnds[i] && (outermost == NONE
                        || foldEnds[i] - foldTops[i] > foldEnds[outermost] - foldTops[outermost])) {
                    outermost = i;
                }
            }
            return outermost;
        }

        /** The first line of the outermost closed fold that a line is in, or the line itself. */
        int topOf(int line) {
            int fold = closedOver(line);
            return fold == NONE ? line : foldTops[fold];
        }

        int endOf(int line) {
            int fold = closedOver(line);
            return fold == NONE ? line : foldEnds[fold];
        }

        /** The line some lines below or above (less than 0) one, closed folds being one line; NONE without. */
        int rowFrom(int line, int many, int count) {
            int at = line;
            for (int i = 0; i < Math.abs(many); i++) {
                at = many > 0 ? endOf(at) + 1 : topOf(at) - 1;
                if (at < 0 || at >= count) {
                    return NONE;
                }
            }
            return topOf(at);
        }

        boolean addFold(int top, int end) {
            if (top >= end || foldCount >= MAX_FOLDS) {
                return false;
            }
            for (int i = 0; i < foldCount; i++) {
                boolean apart = end < foldTops[i] || foldEnds[i] < top;
                boolean within = foldTops[i] <= top && end <= foldEnds[i];
                boolean around = top <= foldTops[i] && foldEnds[i] <= end;
                if (!apart && within == around) {
                    return false;
                }
            }
            foldTops[foldCount] = top;
            foldEnds[foldCount] = end;
            foldClosed[foldCount] = true;
            foldCount++;
            return true;
        }

        /** The innermost fold at the cursor, of those that are closed, or open, alone; NONE without. */
        int innermost(boolean closed, boolean open) {
            int best = NONE;
            for (int i = 0; i < foldCount; i++) {
                if (foldTops[i] > row || foldEnds[i] < row || !(foldClosed[i] ? closed : open)) {
                    continue;
                }
                int wider = best == NONE ? 1 : foldEnds[best] - foldTops[best] - foldEnds[i] + foldTops[i];
                if (wider > 0 || wider == 0 && foldClosed[i]) {
                    best = i;
                }
            }
            return best;
        }

        /** Opens (zo), closes (zc) or takes away (zd) the innermost fold at the cursor. */
        boolean changeFold(int act) {
            int fold = innermost(act != FOLD_CLOSE, act != FOLD_OPEN);
            if (fold == NONE) {
                return false;
            }
            if (act == FOLD_AWAY) {
                foldCount--;
                foldTops[fold] = foldTops[foldCount];
                foldEnds[fold] = foldEnds[foldCount];
                foldClosed[fold] = foldClosed[foldCount];
            } else {
                foldClosed[fold] = act == FOLD_CLOSE;
            }
            return true;
        }

        void openFolds() {
            for (int i = 0; i < foldCount; i++) {
                if (foldTops[i] <= row && row <= foldEnds[i]) {
                    foldClosed[i] = false;
                }
            }
        }

        /** Lines were put in ahead of one. */
        void linesPut(int at, int more) {
            for (int i = 0; i < marks.length; i++) {
                marks[i] += marks[i] >= at * 100 ? more * 100 : 0;
            }
            for (int i = 0; i < jumpCount; i++) {
                jumps[i] += jumps[i] >= at * 100 ? more * 100 : 0;
            }
            for (int i = 0; i < otherCount; i++) {
                others[i] += others[i] >= at * 100 ? more * 100 : 0;
            }
            home += home >= at * 100 ? more * 100 : 0;
            for (int i = 0; i < foldCount; i++) {
                foldTops[i] += foldTops[i] >= at ? more : 0;
                foldEnds[i] += foldEnds[i] >= at ? more : 0;
            }
        }

        /** Lines were taken out; so many are left. */
        void linesGone(int at, int gone, int left) {
            int from = at * 100;
            int to = (at + gone) * 100;
            for (int i = 0; i < marks.length; i++) {
                marks[i] = marks[i] < from ? marks[i] : marks[i] < to ? NONE : marks[i] - gone * 100;
            }
            int kept = 0;
            int keptAt = NONE;
            for (int i = 0; i < jumpCount; i++) {
                if (jumps[i] < from || jumps[i] >= to) {
                    keptAt = i == jumpAt ? kept : keptAt;
                    jumps[kept] = jumps[i] < from ? jumps[i] : jumps[i] - gone * 100;
                    kept++;
                }
            }
            jumpCount = kept;
            jumpAt = keptAt;
            for (int i = 0; i < otherCount; i++) {
                others[i] = others[i] < from ? others[i] : others[i] < to ? NONE : others[i] - gone * 100;
            }
            if (home >= from) {
                home = home < to ? Math.min(at, left - 1) * 100 + home % 100 : home - gone * 100;
            }
            kept = 0;
            for (int i = 0; i < foldCount; i++) {
                int top = foldTops[i] < at ? foldTops[i] : Math.max(at, foldTops[i] - gone);
                int end = foldEnds[i] < at ? foldEnds[i] : Math.max(at - 1, foldEnds[i] - gone);
                if (top < end) {
                    foldTops[kept] = top;
                    foldEnds[kept] = end;
                    foldClosed[kept] = foldClosed[i];
                    kept++;
                }
            }
            foldCount = kept;
        }

        /** Forgets what is beyond the lines that there are. */
        void cutTo(int count) {
            int end = count * 100;
            for (int i = 0; i < marks.length; i++) {
                marks[i] = marks[i] < end ? marks[i] : NONE;
            }
            int kept = 0;
            int keptAt = NONE;
            for (int i = 0; i < jumpCount; i++) {
                if (jumps[i] < end) {
                    keptAt = i == jumpAt ? kept : keptAt;
                    jumps[kept] = jumps[i];
                    kept++;
                }
            }
            jumpCount = kept;
            jumpAt = keptAt;
            kept = 0;
            for (int i = 0; i < foldCount; i++) {
                if (foldTops[i] < Math.min(foldEnds[i], count - 1)) {
                    foldTops[kept] = foldTops[i];
                    foldEnds[kept] = Math.min(foldEnds[i], count - 1);
                    foldClosed[kept] = foldClosed[i];
                    kept++;
                }
            }
            foldCount = kept;
        }
    }

    /** The registers, and the keys that are recorded into one. */
    private static final class Registers {
        private static final int DIGITS = 26, SMALL = 36, UNNAMED = 37, COUNT = 38;

        private final Strip[] all = new Strip[COUNT];
        private final Strip nothing = new Strip(0);
        /** What is about to be written, or to be put once more. */
        final Strip span = new Strip(0);
        private final Strip recorded = new Strip(0);
        /** The letter into which keys are recorded, NONE without. */
        int recording = NONE;
        /** The letter that was played last, NONE without. */
        int played = NONE;

        Registers() {
            for (int i = 0; i < COUNT; i++) {
                all[i] = new Strip(0);
            }
        }

        /** a to z, 0 to 9, - and ", which can be read. */
        static int indexOf(int name) {
            if (name >= 'a' && name <= 'z') {
                return name - 'a';
            }
            if (name >= '0' && name <= '9') {
                return name - '0' + DIGITS;
            }
            return name == '-' ? SMALL : name == '"' ? UNNAMED : NONE;
        }

        /** What a register has that is told in a command, 0 if none is told. */
        Strip named(int name) {
            int index = indexOf(name == 0 ? '"' : isCapital(name) ? name - 'A' + 'a' : name);
            return index < 0 || index >= COUNT ? nothing : all[index];
        }

        /** Whether the span can be written to a register. */
        boolean fits(int name) {
            if (!isCapital(name)) {
                return true;
            }
            Strip old = named(name);
            int ends = old.kind == OF_NOTHING || old.kind == span.kind ? 0 : 1;
            boolean oneIsOfSigns = old.kind == OF_SIGNS || span.kind == OF_SIGNS;
            return old.size + span.size + (oneIsOfSigns ? ends : 0) <= MAX_REGISTER;
        }

        /** Writes the span as d and c, or as y, do; several: it is of lines, or over several. */
        void write(int name, boolean taken, boolean several) {
            if (name == '_') {
                return;
            }
            if (isCapital(name)) {
                append(named(name));
            } else if (name != 0 && name != '"') {
                named(name).copyOf(span, MAX_REGISTER);
            } else if (!taken) {
                all[DIGITS].copyOf(span, MAX_REGISTER);
            } else if (several) {
                pushDown();
            } else {
                all[SMALL].copyOf(span, MAX_REGISTER);
            }
            all[UNNAMED].copyOf(span, MAX_REGISTER);
        }

        /** Puts the span into 1, what was in 1 into 2, and so on to 9. */
        private void pushDown() {
            Strip last = all[DIGITS + 9];
            for (int i = DIGITS + 9; i > DIGITS + 1; i--) {
                all[i] = all[i - 1];
            }
            all[DIGITS + 1] = last;
            last.copyOf(span, MAX_REGISTER);
        }

        private void append(Strip old) {
            if (old.kind == OF_NOTHING) {
                old.copyOf(span, MAX_REGISTER);
                return;
            }
            boolean ofSigns = old.kind == OF_SIGNS && span.kind == OF_SIGNS;
            if (!ofSigns && old.kind == OF_SIGNS) {
                old.add(LINE_END);
            }
            for (int i = 0; i < span.size; i++) {
                old.add(span.signs[i]);
            }
            if (!ofSigns && span.kind == OF_SIGNS) {
                old.add(LINE_END);
            }
            old.kind = ofSigns ? OF_SIGNS : OF_LINES;
        }

        void record(int key) {
            if (recording != NONE && recorded.size < MAX_REGISTER) {
                recorded.add(key == ENTER ? LINE_END : key);
            }
        }

        void beginRecording(int letter) {
            recording = letter;
            recorded.clear();
        }

        /** Ends recording; the key q by which that is told was recorded, too. */
        void endRecording() {
            recorded.dropLast();
            recorded.kind = recorded.size > 0 ? OF_SIGNS : OF_NOTHING;
            named(recording).copyOf(recorded, MAX_REGISTER);
            recording = NONE;
        }

        boolean isLike(Registers other) {
            for (int i = 0; i < COUNT; i++) {
                if (!all[i].isLike(other.all[i])) {
                    return false;
                }
            }
            return true;
        }
    }

    /** The tree of states. */
    private static final class States {
        private static final int MOST = 99;

        private final Text[] texts = new Text[MOST];
        private final int[] parents = new int[MOST];
        int count = 0;
        int present = NONE;

        void clear() {
            count = 0;
            present = NONE;
        }

        /** Makes a new state, which comes from the present one; the 100th one is the only one then. */
        void add(Text text) {
            if (count >= MOST) {
                clear();
            }
            if (texts[count] == null) {
                texts[count] = new Text(null);
            }
            texts[count].copyOf(text);
            parents[count] = present;
            present = count;
            count++;
        }

        int cameFrom(int state) {
            return state < 0 || state >= count ? NONE : parents[state];
        }

        Text textOf(int state) {
            return state < 0 || state >= count ? null : texts[state];
        }

        boolean isPresent(Text text) {
            Text own = textOf(present);
            return own != null && own.isLike(text);
        }

        /** The state to which u, REDO, g- or g+ lead; NONE without. */
        int reached(int act, int many) {
            int at = present;
            for (int i = 0; i < many && at != NONE; i++) {
                if (act == 'u') {
                    at = cameFrom(at);
                } else if (act == REDO) {
                    at = latestFrom(at);
                } else {
                    at += act == STATE_BEFORE ? -1 : 1;
                    at = at < 0 || at >= count ? NONE : at;
                }
            }
            return at;
        }

        private int latestFrom(int state) {
            for (int i = count - 1; i >= 0; i--) {
                if (parents[i] == state) {
                    return i;
                }
            }
            return NONE;
        }
    }

    /** The keys of a command that is given, and what they tell. */
    private static final class Command {
        static final int MORE = 0, READY = 1, BAD = 2;
        private static final int HEAD = 0, NAME = 1, BEHIND = 2, PREFIX = 3, ARGUMENT = 4, SEARCH = 5, OBJECT = 6;
        private static final String MOTIONS = "hljk0^$wbe;,G}{%nN", WITH_ARGUMENT = "ftFT'`";
        private static final String PLAIN = "xXDCsSYJpP~iaIAoOvV:u.";

        /** With those of its insertion behind them. */
        final Strip keys = new Strip(0);
        /** How many keys it has without its insertion. */
        int whole;
        private int reading;
        private int prefix;
        int register;
        int count;
        private int second;
        /** Where the digits of both counts are, or would be. */
        private int countFrom;
        private int countTo;
        private int secondFrom;
        private int secondTo;
        /** The operator, 0 without. */
        int op;
        /** The motion, the object, or the command. */
        int act;
        /** The key by which the command is named, x also if it is done as dl. */
        private int verb;
        int argument;
        boolean isObject;
        private boolean selecting;

        void clear() {
            keys.clear();
            whole = 0;
            reading = HEAD;
            register = 0;
            count = 0;
            second = 0;
            countFrom = 0;
            countTo = 0;
            secondFrom = 0;
            secondTo = 0;
            op = 0;
            act = 0;
            verb = 0;
            argument = 0;
            isObject = false;
        }

        /** Takes one more key in NORMAL or a selection; READY makes it a command, with BAD it can be none. */
        int accept(int key, int mode, boolean recording) {
            if (!keys.add(key)) {
                return BAD;
            }
            selecting = mode != NORMAL;
            switch (reading) {
                case HEAD:
                    return head(key, mode, recording);
                case NAME:
                    return name(key);
                case BEHIND:
                    return behind(key);
                case PREFIX:
                    return prefixed(prefix << 8 | key);
                case ARGUMENT:
                    return argued(key);
                case SEARCH:
                    return isSign(key) ? MORE : key == ENTER ? ready(act) : BAD;
                default:
                    argument = key;
                    return "w\"([{p".indexOf((char) key) >= 0 ? ready(act) : BAD;
            }
        }

        private int head(int key, int mode, boolean recording) {
            if (key == '"' && keys.size == 1) {
                reading = NAME;
                return MORE;
            }
            if (isDigit(key, count)) {
                count = Math.min(MAX_COUNT, count * 10 + key - '0');
                countTo = keys.size;
                return MORE;
            }
            if (key == 'g' || key == 'z') {
                prefix = key;
                return await(PREFIX, act);
            }
            if (WITH_ARGUMENT.indexOf((char) key) >= 0 || key == 'r') {
                return await(ARGUMENT, key);
            }
            if (key == '/') {
                return await(SEARCH, key);
            }
            if (MOTIONS.indexOf((char) key) >= 0) {
                return ready(key);
            }
            return selecting ? headSelecting(key, mode) : headNormal(key, recording);
        }

        private int headNormal(int key, boolean recording) {
            if ("dcy><".indexOf((char) key) >= 0) {
                return operator(key);
            }
            if (key == 'm' || key == '@' || key == 'q' && !recording) {
                return await(ARGUMENT, key);
            }
            boolean plain = PLAIN.indexOf((char) key) >= 0 || key == 'q' || key == RECT || key == REDO || key == OLDER
                || key == NEWER;
            return plain ? expanded(key) : BAD;
        }

        private int headSelecting(int key, int mode) {
            if (key == 'i' || key == 'a') {
                isObject = true;
                return await(OBJECT, key);
            }
            if ("ovVJ".indexOf((char) key) >= 0 || key == RECT) {
                return ready(key);
            }
            if ("dxcsy><~".indexOf((char) key) < 0 || mode == RECTS && (key == 'c' || key == 's')) {
                return BAD;
            }
            op = key == 'x' ? 'd' : key == 's' ? 'c' : key == '~' ? SWAP : key;
            return ready(0);
        }

        private int name(int key) {
            boolean known = Registers.indexOf(key) != NONE || isCapital(key) || key == '_';
            register = key;
            reading = HEAD;
            countFrom = keys.size;
            countTo = keys.size;
            return known ? MORE : BAD;
        }

        private int behind(int key) {
            if (isDigit(key, second)) {
                second = Math.min(MAX_COUNT, second * 10 + key - '0');
                secondTo = keys.size;
                return MORE;
            }
            if (key == (op == SWAP ? '~' : op == FOLD ? 'z' : op)) {
                return ready(WHOLE_LINES);
            }
            if (key == 'i' || key == 'a') {
                isObject = true;
                return await(OBJECT, key);
            }
            if (key == 'g') {
                prefix = key;
                return await(PREFIX, act);
            }
            if (key == '/') {
                return await(SEARCH, key);
            }
            if (WITH_ARGUMENT.indexOf((char) key) >= 0) {
                return await(ARGUMENT, key);
            }
            return MOTIONS.indexOf((char) key) >= 0 ? ready(key) : BAD;
        }

        /** Takes the second key of one that begins with g or z. */
        private int prefixed(int code) {
            if (code == GG) {
                return ready(code);
            }
            if (op != 0 || code != SWAP && code != FOLD) {
                boolean plain = code == STATE_BEFORE || code == STATE_BEHIND || code == SPREAD || code == FOLD_OPEN
                    || code == FOLD_CLOSE || code == FOLD_AWAY;
                return plain && op == 0 && !selecting ? ready(code) : BAD;
            }
            if (selecting) {
                op = code;
                return ready(0);
            }
            return operator(code);
        }

        private int argued(int key) {
            argument = key;
            boolean fits;
            if (act == 'f' || act == 't' || act == 'F' || act == 'T' || act == 'r') {
                fits = isSign(key);
            } else {
                fits = isLetter(key) || act == '@' && key == '@';
            }
            return fits ? ready(act) : BAD;
        }

        private int await(int next, int key) {
            reading = next;
            act = key;
            return MORE;
        }

        private int operator(int code) {
            op = code;
            reading = BEHIND;
            secondFrom = keys.size;
            secondTo = keys.size;
            return MORE;
        }

        private int ready(int code) {
            act = code;
            verb = op != 0 ? op : code;
            whole = keys.size;
            return READY;
        }

        /** Ready with a command that may stand for an operator with a motion. */
        private int expanded(int key) {
            int done = ready(key);
            int at = "xXDCsSY".indexOf((char) key);
            if (at >= 0) {
                op = "dddcccy".charAt(at);
                act = at < 5 ? "lh$$l".charAt(at) : WHOLE_LINES;
            }
            return done;
        }

        /** Whether a key is a digit of a count, which does not begin with 0. */
        private static boolean isDigit(int key, int soFar) {
            return key >= '1' && key <= '9' || key == '0' && soFar > 0;
        }

        int times() {
            return Math.min(MAX_COUNT, Math.max(1, count) * Math.max(1, second));
        }

        boolean isCounted() {
            return count > 0 || second > 0;
        }

        boolean isMotion() {
            return op == 0 && !isObject && act != 0
                && (act == GG || act == '/' || MOTIONS.indexOf((char) act) >= 0 && act < 127
                    || WITH_ARGUMENT.indexOf((char) act) >= 0 && act < 127);
        }

        /** Whether it is a motion ahead of which the place is kept. */
        boolean leaps() {
            return act == GG || act < 127 && "G/nN'`%{}".indexOf((char) act) >= 0;
        }

        boolean isInsertion() {
            return op == 0 && (act == 'i' || act == 'a' || act == 'I' || act == 'A');
        }

        /** Whether it is done at all cursors. */
        boolean isForAll() {
            if (verb == 'S' || verb == 'Y') {
                return false;
            }
            return op != 0 || isMotion() || act < 127 && "r~JpPiaIA".indexOf((char) act) >= 0;
        }

        /** Whether it can become the last change. */
        boolean canBeDoneOnceMore() {
            return !selecting && act != 'u' && act != REDO && act != STATE_BEFORE && act != STATE_BEHIND && act != '.';
        }

        /** Becomes another one, as far as that is needed to do it once more. */
        void copyOf(Command other) {
            keys.copyOf(other.keys, other.keys.size);
            countFrom = other.countFrom;
            countTo = other.countTo;
            secondFrom = other.secondFrom;
            secondTo = other.secondTo;
        }

        /** Writes the keys by which it is done once more, with another count if that is not 0. */
        void spell(Strip out, int newCount) {
            for (int i = 0; i < keys.size && out.size <= MAX_PLAYED; i++) {
                int key = keys.signs[i];
                if (newCount > 0 && i == countFrom) {
                    if (newCount > 9) {
                        out.add('0' + newCount / 10);
                    }
                    out.add('0' + newCount % 10);
                }
                boolean ofCount = i >= countFrom && i < countTo || i >= secondFrom && i < secondTo;
                if (newCount > 0 && ofCount) {
                    continue;
                }
                boolean ofRegister = i == 1 && keys.signs[0] == '"' && key >= '1' && key <= '8';
                out.add(ofRegister ? key + 1 : key);
            }
        }
    }

    /** Where motions lead, and what objects hold. */
    private static final class Finder {
        static final int EXCLUSIVE = 0, INCLUSIVE = 1, OF_LINES = 2;

        private final Text text;
        private final Places places;
        boolean wrap = true;
        /** The signs searched last, and those that the present command searches. */
        private final Strip pattern = new Strip(0);
        private final Strip sought = new Strip(0);
        /** The last of f, t, F and T, and its sign; 0 without. */
        private int lastWay = 0;
        private int lastSign = 0;
        /** What was found: the place to which a motion leads, and of which kind it is. */
        int target;
        int reach;
        /** Also what was found: the places or lines of an object, the last one of lines included. */
        int from;
        int to;
        boolean ofLines;

        Finder(Text text, Places places) {
            this.text = text;
            this.places = places;
        }

        /** Finds where the motion of a command leads, perhaps for an operator. */
        boolean find(Command command, boolean operating) {
            int many = command.times();
            reach = EXCLUSIVE;
            switch (command.act) {
                case 'h': case 'l': case '0': case '^': case '$':
                    return inLine(command.act, many, operating);
                case 'j': case 'k': case 'G': case GG: case '\'': case '`':
                    return toLine(command, many);
                case 'w':
                    return words(many, operating);
                case 'b':
                    return wordsBack(many);
                case 'e':
                    return wordEnds(many);
                case '}': case '{':
                    return paragraphs(many, command.act == '}');
                case '%':
                    return bracket();
                case 'f': case 't': case 'F': case 'T':
                    return signOfLine(command.act, command.argument, many);
                case ';':
                    return signOfLine(lastWay, lastSign, many);
                case ',':
                    return signOfLine(lastWay >= 'a' ? lastWay - 'a' + 'A' : lastWay - 'A' + 'a', lastSign, many);
                case '/':
                    sought.partOf(command.keys, command.keys.find('/', 0) + 1, command.whole - 1);
                    return search(sought, many, true);
                default:
                    return search(pattern, many, command.act == 'n');
            }
        }

        /** Remembers what a command that did not fail has searched. */
        void remember(Command command) {
            if (command.isObject) {
                return;
            }
            if (command.act == '/') {
                pattern.copyOf(sought, sought.size);
            } else if (command.act == 'f' || command.act == 't' || command.act == 'F' || command.act == 'T') {
                lastWay = command.act;
                lastSign = command.argument;
            }
        }

        private boolean inLine(int act, int many, boolean operating) {
            int row = places.row;
            int col = places.col;
            int size = text.sizeOf(row);
            switch (act) {
                case 'h':
                    target = row * 100 + Math.max(0, col - many);
                    return col > 0;
                case 'l':
                    int last = operating ? size : size - 1;
                    target = row * 100 + Math.min(col + many, last);
                    return col < last;
                case '0':
                    target = row * 100;
                    return true;
                case '^':
                    target = row * 100 + text.firstSign(row);
                    return true;
                default:
                    reach = INCLUSIVE;
                    row += many - 1;
                    target = row * 100 + Math.max(0, text.sizeOf(row) - 1);
                    return row < text.count && !(operating && many == 1 && size == 0);
            }
        }

        private boolean toLine(Command command, int many) {
            reach = OF_LINES;
            int row;
            switch (command.act) {
                case 'j': case 'k':
                    row = places.rowFrom(places.row, command.act == 'j' ? many : -many, text.count);
                    target = row * 100;
                    return row != NONE;
                case 'G':
                    row = command.isCounted() ? Math.min(many, text.count) - 1 : text.count - 1;
                    break;
                case GG:
                    row = command.isCounted() ? Math.min(many, text.count) - 1 : 0;
                    break;
                default:
                    int place = places.markOf(command.argument);
                    row = place / 100;
                    if (place == NONE) {
                        return false;
                    }
                    if (command.act == '`') {
                        reach = EXCLUSIVE;
                        target = row * 100 + Math.min(place % 100, Math.max(0, text.sizeOf(row) - 1));
                        return true;
                    }
            }
            target = row * 100 + text.firstSign(row);
            return true;
        }

        /** The last sign of the text. */
        private int lastPlace() {
            int row = text.count - 1;
            return row * 100 + Math.max(0, text.sizeOf(row) - 1);
        }

        private boolean words(int many, boolean operating) {
            int at = places.here();
            for (int i = 0; i < many; i++) {
                int next = nextWord(at);
                if (next == NONE && operating) {
                    target = (text.count - 1) * 100 + text.sizeOf(text.count - 1);
                    return true;
                }
                if (next == NONE) {
                    target = lastPlace();
                    return i > 0 || target != at;
                }
                target = next;
                if (operating && i == many - 1 && next / 100 != at / 100) {
                    target = (next / 100 - 1) * 100 + text.sizeOf(next / 100 - 1);
                }
                at = next;
            }
            return true;
        }

        private int nextWord(int place) {
            for (int row = place / 100; row < text.count; row++) {
                int size = text.sizeOf(row);
                if (size == 0 && row > place / 100) {
                    return row * 100;
                }
                for (int col = row == place / 100 ? place % 100 + 1 : 0; col < size; col++) {
                    int kind = text.kindAt(row, col);
                    if (kind != Text.BLANK && kind != text.kindAt(row, col - 1)) {
                        return row * 100 + col;
                    }
                }
            }
            return NONE;
        }

        private boolean wordsBack(int many) {
            target = places.here();
            for (int i = 0; i < many; i++) {
                int next = wordAhead(target);
                if (next == NONE) {
                    boolean goes = i > 0 || target != 0;
                    target = 0;
                    return goes;
                }
                target = next;
            }
            return true;
        }

        private int wordAhead(int place) {
            for (int row = place / 100; row >= 0; row--) {
                int size = text.sizeOf(row);
                if (size == 0 && row < place / 100) {
                    return row * 100;
                }
                for (int col = row == place / 100 ? place % 100 - 1 : size - 1; col >= 0; col--) {
                    int kind = text.kindAt(row, col);
                    if (kind != Text.BLANK && kind != text.kindAt(row, col - 1)) {
                        return row * 100 + col;
                    }
                }
            }
            return NONE;
        }

        private boolean wordEnds(int many) {
            reach = INCLUSIVE;
            target = places.here();
            for (int i = 0; i < many && target != NONE; i++) {
                target = nextEnd(target);
            }
            return target != NONE;
        }

        private int nextEnd(int place) {
            for (int row = place / 100; row < text.count; row++) {
                int size = text.sizeOf(row);
                for (int col = row == place / 100 ? place % 100 + 1 : 0; col < size; col++) {
                    int kind = text.kindAt(row, col);
                    if (kind != Text.BLANK && kind != text.kindAt(row, col + 1)) {
                        return row * 100 + col;
                    }
                }
            }
            return NONE;
        }

        private boolean paragraphs(int many, boolean down) {
            int end = down ? lastPlace() : 0;
            target = places.here();
            for (int i = 0; i < many; i++) {
                int row = nextEmpty(target / 100, down ? 1 : -1);
                if (row == NONE) {
                    boolean goes = i > 0 || target != end;
                    target = end;
                    return goes;
                }
                target = row * 100;
            }
            return true;
        }

        /** The next empty line on a way that is not beside another one ahead of it on that way. */
        private int nextEmpty(int from, int way) {
            for (int row = from + way; row >= 0 && row < text.count; row += way) {
                if (text.sizeOf(row) == 0 && text.sizeOf(row - way) > 0) {
                    return row;
                }
            }
            return NONE;
        }

        private boolean bracket() {
            reach = INCLUSIVE;
            int row = places.row;
            for (int col = places.col; col < text.sizeOf(row); col++) {
                int at = "([{)]}".indexOf((char) text.signAt(row, col));
                if (at >= 0) {
                    int other = "([{)]}".charAt((at + 3) % 6);
                    target = matching(row * 100 + col, text.signAt(row, col), other, at < 3 ? 1 : -1);
                    return target != NONE;
                }
            }
            return false;
        }

        /** The place of the bracket that matches the one at a place, NONE without. */
        private int matching(int place, int own, int other, int way) {
            int depth = 0;
            int col = place % 100;
            for (int row = place / 100; row >= 0 && row < text.count; row += way) {
                for (; col >= 0 && col < text.sizeOf(row); col += way) {
                    int sign = text.signAt(row, col);
                    depth += sign == own ? 1 : sign == other ? -1 : 0;
                    if (depth == 0) {
                        return row * 100 + col;
                    }
                }
                col = way > 0 ? 0 : text.sizeOf(row - 1) - 1;
            }
            return NONE;
        }

        private boolean signOfLine(int way, int sign, int many) {
            int row = places.row;
            int step = way == 'f' || way == 't' ? 1 : -1;
            int left = many;
            int col = places.col;
            if (sign == 0) {
                return false;
            }
            for (col += step; col >= 0 && col < text.sizeOf(row); col += step) {
                left -= text.signAt(row, col) == sign ? 1 : 0;
                if (left == 0) {
                    reach = step > 0 ? INCLUSIVE : EXCLUSIVE;
                    target = row * 100 + (way == 't' || way == 'T' ? col - step : col);
                    return true;
                }
            }
            return false;
        }

        private boolean search(Strip signs, int many, boolean down) {
            target = places.here();
            for (int i = 0; i < many && target != NONE && signs.size > 0; i++) {
                target = down ? placeBehind(signs, target) : placeAhead(signs, target);
            }
            return target != NONE && signs.size > 0;
        }

        /** The next place behind one at which signs stand; with WRAP that one comes last. */
        private int placeBehind(Strip signs, int place) {
            int begin = place / 100;
            int end = wrap ? begin + text.count : text.count - 1;
            for (int step = begin; step <= end; step++) {
                int row = step < text.count ? step : step - text.count;
                int col = text.findIn(row, step == begin ? place % 100 + 1 : 0, signs);
                if (col != NONE && (step < begin + text.count || col <= place % 100)) {
                    return row * 100 + col;
                }
            }
            return NONE;
        }

        private int placeAhead(Strip signs, int place) {
            int begin = place / 100;
            int end = wrap ? begin - text.count : 0;
            for (int step = begin; step >= end; step--) {
                int row = step >= 0 ? step : step + text.count;
                int least = step == begin - text.count ? place % 100 : 0;
                int col = text.findBack(row, step == begin ? place % 100 : MAX_SIGNS + 1, least, signs);
                if (col != NONE) {
                    return row * 100 + col;
                }
            }
            return NONE;
        }

        /** Finds the lines from that of the cursor on, closed folds being one line. */
        boolean someLines(int many) {
            int row = places.rowFrom(places.row, many - 1, text.count);
            target = row * 100;
            reach = OF_LINES;
            return row != NONE;
        }

        /** Finds an object; from and to are one place if it is empty. */
        boolean object(Command command) {
            int many = command.times();
            boolean outer = command.act == 'a';
            ofLines = command.argument == 'p';
            switch (command.argument) {
                case 'w':
                    return wordObject(many, outer);
                case '"':
                    return quoteObject(outer);
                case 'p':
                    return paragraphObject(outer);
                default:
                    return bracketObject(many, command.argument, outer);
            }
        }

        private boolean wordObject(int many, boolean outer) {
            int row = places.row;
            int size = text.sizeOf(row);
            int begin = places.col;
            if (size == 0) {
                return false;
            }
            while (begin > 0 && text.kindAt(row, begin - 1) == text.kindAt(row, places.col)) {
                begin--;
            }
            int end = begin;
            for (int i = 0; i < many; i++) {
                if (end >= size) {
                    return false;
                }
                end = runEnd(row, end, text.kindAt(row, end));
            }
            int behind = outer ? runEnd(row, end, Text.BLANK) : end;
            while (outer && behind == end && text.kindAt(row, begin - 1) == Text.BLANK) {
                begin--;
            }
            from = row * 100 + begin;
            to = row * 100 + behind;
            return true;
        }

        /** Where the run of signs of a kind ends that begins at a column. */
        private int runEnd(int row, int col, int kind) {
            int end = col;
            while (end < text.sizeOf(row) && text.kindAt(row, end) == kind) {
                end++;
            }
            return end;
        }

        private boolean quoteObject(boolean outer) {
            int row = places.row;
            int first = NONE;
            for (int col = 0; col < text.sizeOf(row); col++) {
                if (text.signAt(row, col) != '"') {
                    continue;
                }
                if (first == NONE) {
                    first = col;
                } else if (col < places.col) {
                    first = NONE;
                } else {
                    from = row * 100 + (outer ? first : first + 1);
                    to = row * 100 + (outer ? col + 1 : col);
                    return true;
                }
            }
            return false;
        }

        private boolean bracketObject(int many, int open, boolean outer) {
            int close = open == '(' ? ')' : open == '[' ? ']' : '}';
            int begin = places.here();
            int sign = text.signAt(places.row, places.col);
            if (sign == close) {
                begin = matching(begin, close, open, -1);
            } else if (sign != open) {
                begin = opening(begin, open, close);
            }
            for (int i = 1; i < many && begin != NONE; i++) {
                begin = opening(begin, open, close);
            }
            int end = begin == NONE ? NONE : matching(begin, open, close, 1);
            if (end == NONE) {
                return false;
            }
            from = outer ? begin : begin + 1;
            to = outer ? end + 1 : end;
            return true;
        }

        /** The bracket ahead of a place that is opened there and not closed ahead of that place. */
        private int opening(int place, int open, int close) {
            int depth = 0;
            int col = place % 100 - 1;
            for (int row = place / 100; row >= 0; row--) {
                for (; col >= 0; col--) {
                    int sign = text.signAt(row, col);
                    depth += sign == close ? 1 : sign == open ? -1 : 0;
                    if (depth < 0) {
                        return row * 100 + col;
                    }
                }
                col = text.sizeOf(row - 1) - 1;
            }
            return NONE;
        }

        private boolean paragraphObject(boolean outer) {
            int top = runOfLines(places.row, -1);
            int end = runOfLines(places.row, 1);
            if (outer && end + 1 < text.count) {
                end = runOfLines(end + 1, 1);
            } else if (outer && top > 0) {
                top = runOfLines(top - 1, -1);
            }
            from = top * 100;
            to = end * 100;
            return true;
        }

        /** The last one on a way of the lines that are empty, or not, as one is. */
        private int runOfLines(int line, int way) {
            boolean empty = text.sizeOf(line) == 0;
            int row = line;
            while (row + way >= 0 && row + way < text.count && empty == (text.sizeOf(row + way) == 0)) {
                row += way;
            }
            return row;
        }

        /** Puts cursors at all places where the signs searched last stand; false if there is none. */
        boolean spread() {
            int first = pattern.size > 0 ? nextMatch(0) : NONE;
            if (first == NONE) {
                return false;
            }
            boolean stays = text.hasAt(places.row, places.col, pattern);
            int main = stays ? places.here() : first;
            places.otherCount = 0;
            int place = first;
            for (int i = 0; i < MAX_LINES * MAX_SIGNS && place != NONE; i++) {
                if (place != main) {
                    places.addOther(place);
                }
                place = nextMatch(place + 1);
            }
            if (!stays) {
                places.go(text, main / 100, main % 100);
            }
            return true;
        }

        /** The first place from one on where the signs searched last stand; NONE without. */
        private int nextMatch(int place) {
            for (int row = place / 100; row < text.count; row++) {
                int col = text.findIn(row, row == place / 100 ? place % 100 : 0, pattern);
                if (col != NONE) {
                    return row * 100 + col;
                }
            }
            return NONE;
        }
    }

    /** What commands do to the text, to a span of it most of them. */
    private static final class Editor {
        private final Text text;
        private final Places places;
        private final Registers registers;
        /** The text as it was, while lines are put elsewhere. */
        private final Text spare = new Text(null);
        /** The span: SIGNS from a place to one that is not included, LINES, or RECTS with both its corners. */
        private int shape = LINES;
        private int from = 0;
        private int to = 0;
        /** Its lines for what is done to whole lines. */
        int first = 0;
        int last = 0;
        /** Where the insertion began, and the column ahead of which BACK takes nothing away. */
        private int begun = 0;
        private int backTo = 0;

        Editor(Text text, Places places, Registers registers) {
            this.text = text;
            this.places = places;
            this.registers = registers;
        }

        void spanLines(int top, int end) {
            shape = LINES;
            from = top * 100;
            to = end * 100;
            first = top;
            last = end;
        }

        /** Signs up to a place that is not included; of what ends ahead of column 0 the line ahead is the last one. */
        void spanSigns(int begin, int end) {
            shape = SIGNS;
            from = begin;
            to = end;
            first = begin / 100;
            last = end % 100 == 0 && end / 100 > first ? end / 100 - 1 : end / 100;
        }

        /** The span from the cursor to where a motion leads; false if it holds nothing. */
        boolean spanMotion(Finder found, boolean overFolds) {
            int lesser = Math.min(places.here(), found.target);
            int greater = Math.max(places.here(), found.target);
            int row = greater / 100;
            if (found.reach == Finder.OF_LINES) {
                int top = lesser / 100;
                spanLines(overFolds ? places.topOf(top) : top, overFolds ? places.endOf(row) : row);
                return true;
            }
            if (found.reach == Finder.INCLUSIVE) {
                spanSigns(lesser, row * 100 + Math.min(greater % 100 + 1, text.sizeOf(row)));
                last = row;
                return from < to;
            }
            if (greater % 100 == 0 && row > lesser / 100) {
                greater = (row - 1) * 100 + text.sizeOf(row - 1);
            }
            spanSigns(lesser, greater);
            last = greater / 100;
            return lesser < greater;
        }

        /** The span of the selection. */
        void spanSelection(int mode) {
            int lesser = Math.min(places.here(), places.anchor);
            int greater = Math.max(places.here(), places.anchor);
            int row = greater / 100;
            if (mode == LINES) {
                spanLines(places.topOf(lesser / 100), places.endOf(row));
            } else if (mode == SIGNS) {
                spanSigns(lesser, row * 100 + Math.min(greater % 100 + 1, text.sizeOf(row)));
                last = row;
            } else {
                int left = Math.min(lesser % 100, greater % 100);
                int right = Math.max(lesser % 100, greater % 100);
                spanLines(lesser / 100, row);
                shape = RECTS;
                from += left;
                to += right;
            }
        }

        /** The last line of which the span has signs, or none. */
        private int bottom() {
            return to / 100;
        }

        private int left(int row) {
            return shape == RECTS || shape == SIGNS && row == from / 100 ? from % 100 : 0;
        }

        /** The column that is the first one not included. */
        private int right(int row) {
            int size = text.sizeOf(row);
            if (shape == RECTS) {
                return Math.min(size, to % 100 + 1);
            }
            return shape == SIGNS && row == to / 100 ? Math.min(size, to % 100) : size;
        }

        private int signsInSpan() {
            int count = 0;
            for (int row = first; row <= bottom(); row++) {
                count += Math.max(0, right(row) - left(row));
            }
            return count;
        }

        /** Whether the span holds what d, y, g~ and the like need. */
        private boolean holdsSome() {
            return shape == LINES || shape == SIGNS && first < bottom() || signsInSpan() > 0;
        }

        private void copySpan() {
            Strip out = registers.span;
            out.clear();
            out.kind = shape == SIGNS ? OF_SIGNS : shape == LINES ? OF_LINES : OF_ROWS;
            for (int row = first; row <= bottom(); row++) {
                for (int col = left(row); col < right(row); col++) {
                    out.add(text.signAt(row, col));
                }
                if (shape != SIGNS || row < bottom()) {
                    out.add(LINE_END);
                }
            }
        }

        /** Whether the lines fit together that become one when the span is taken out. */
        private boolean fitsWithout() {
            int end = bottom();
            return shape != SIGNS || from % 100 + text.sizeOf(end) - to % 100 <= MAX_SIGNS;
        }

        /** Does an operator with the span; false if it fails, with nothing changed. */
        boolean operate(int op, int register) {
            boolean writes = op == 'd' || op == 'c' || op == 'y';
            if ((writes || op == SWAP) && !holdsSome()) {
                return false;
            }
            if (writes) {
                copySpan();
                if (!registers.fits(register) || op != 'y' && !fitsWithout()) {
                    return false;
                }
                registers.write(register, op != 'y', shape == LINES || first < bottom());
            }
            switch (op) {
                case 'd':
                    takeOut();
                    return true;
                case 'c':
                    empty();
                    return true;
                case 'y':
                    places.go(text, first, shape == LINES ? places.col : from % 100);
                    return true;
                case '>': case '<':
                    return shift(op == '>');
                case SWAP:
                    swap();
                    return true;
                default:
                    return places.addFold(first, last);
            }
        }

        private void takeOut() {
            if (shape == LINES) {
                text.dropLines(first, last - first + 1);
                places.goToText(text, first);
                return;
            }
            empty();
            places.go(text, first, from % 100);
        }

        /** Takes out what the span has; of lines the first one stays. The cursor is where one can insert. */
        private void empty() {
            if (shape == SIGNS && first < bottom()) {
                text.cut(first, from % 100, text.sizeOf(first));
                text.cut(bottom(), 0, to % 100);
                text.moveTail(bottom(), 0, first);
                text.dropLines(first + 1, bottom() - first);
            } else {
                for (int row = first; row <= bottom(); row++) {
                    text.cut(row, left(row), right(row));
                }
                if (shape == LINES) {
                    text.dropLines(first + 1, last - first);
                }
            }
            places.put(first, from % 100);
        }

        private boolean shift(boolean more) {
            for (int row = first; row <= last && more; row++) {
                if (text.sizeOf(row) > MAX_SIGNS - 2) {
                    return false;
                }
            }
            for (int row = first; row <= last; row++) {
                if (more && text.sizeOf(row) > 0) {
                    text.putSigns(row, 0, ' ', 2);
                } else if (!more) {
                    text.cut(row, 0, Math.min(2, text.blanks(row)));
                }
            }
            places.goToText(text, first);
            return true;
        }

        private void swap() {
            for (int row = first; row <= bottom(); row++) {
                for (int col = left(row); col < right(row); col++) {
                    int sign = text.signAt(row, col);
                    int other = isLetter(sign) ? sign - 'a' + 'A' : isCapital(sign) ? sign - 'A' + 'a' : sign;
                    text.setSign(row, col, other);
                }
            }
            places.go(text, first, from % 100);
        }

        /** r: puts a sign for all signs of the span. */
        boolean replace(int sign) {
            if (signsInSpan() == 0) {
                return false;
            }
            for (int row = first; row <= bottom(); row++) {
                for (int col = left(row); col < right(row); col++) {
                    text.setSign(row, col, sign);
                }
            }
            places.go(text, first, from % 100);
            return true;
        }

        /** r in NORMAL. */
        boolean replaceHere(int sign, int many) {
            int end = places.col + many;
            if (end > text.sizeOf(places.row)) {
                return false;
            }
            spanSigns(places.here(), places.row * 100 + end);
            replace(sign);
            places.go(text, places.row, end - 1);
            return true;
        }

        /** ~ in NORMAL. */
        boolean swapHere(int many) {
            int end = Math.min(places.col + many, text.sizeOf(places.row));
            if (places.col >= end) {
                return false;
            }
            spanSigns(places.here(), places.row * 100 + end);
            swap();
            places.go(text, places.row, end);
            return true;
        }

        /** Joins lines to one; false if they are not there, or too long. */
        boolean join(int top, int end) {
            if (top < 0 || end >= text.count) {
                return false;
            }
            int size = text.sizeOf(top);
            for (int row = top + 1; row <= end; row++) {
                int rest = text.sizeOf(row) - text.blanks(row);
                size += rest > 0 && size > 0 ? rest + 1 : rest;
            }
            if (size > MAX_SIGNS) {
                return false;
            }
            int begin = 0;
            for (int row = top + 1; row <= end; row++) {
                begin = text.sizeOf(top);
                text.cut(row, 0, text.blanks(row));
                if (begin > 0 && text.sizeOf(row) > 0) {
                    text.putSigns(top, begin, ' ', 1);
                }
                text.moveTail(row, 0, top);
            }
            text.dropLines(top + 1, end - top);
            places.go(text, top, begin);
            return true;
        }

        /** p and P: puts what a register has some times, behind the cursor or ahead of it. */
        boolean put(int register, int many, boolean behind) {
            Strip had = registers.named(register);
            for (int i = 0; i < had.size; i++) {
                if (!isSign(had.signs[i]) && had.signs[i] != LINE_END) {
                    return false;
                }
            }
            int row = places.row;
            int col = behind ? Math.min(places.col + 1, text.sizeOf(row)) : places.col;
            switch (had.kind) {
                case OF_SIGNS:
                    if (!fits(row, col, had, many)) {
                        return false;
                    }
                    int end = putStrip(row, col, had, many);
                    places.go(text, row, end / 100 == row ? end % 100 - 1 : col);
                    return true;
                case OF_LINES:
                    return putLines(behind ? places.endOf(row) + 1 : places.topOf(row), had, many);
                case OF_ROWS:
                    return putRows(row, col, had, many);
                default:
                    return false;
            }
        }

        /** Whether signs with line ends fit into the text at a place so many times. */
        boolean fits(int row, int col, Strip signs, int many) {
            int rows = text.count;
            int wide = col;
            for (int i = 0; i < many; i++) {
                for (int j = 0; j < signs.size; j++) {
                    boolean ends = signs.signs[j] == LINE_END;
                    wide = ends ? 0 : wide + 1;
                    rows += ends ? 1 : 0;
                    if (wide > MAX_SIGNS || rows > MAX_LINES) {
                        return false;
                    }
                }
            }
            return wide + text.sizeOf(row) - col <= MAX_SIGNS;
        }

        /** Puts signs that fit at a place so many times; answers the place behind them. */
        int putStrip(int row, int col, Strip signs, int many) {
            int atRow = row;
            int atCol = col;
            int ends = signs.count(LINE_END) * many;
            if (ends > 0) {
                // the rest of the line goes first, as together with the first of the signs it may be too long
                text.openLines(row + 1, ends);
                text.moveTail(row, col, row + ends);
            }
            for (int i = 0; i < many; i++) {
                for (int j = 0; j < signs.size; j++) {
                    if (signs.signs[j] == LINE_END) {
                        atRow++;
                        atCol = 0;
                    } else {
                        text.putSigns(atRow, atCol, signs.signs[j], 1);
                        atCol++;
                    }
                }
            }
            return atRow * 100 + atCol;
        }

        private boolean putLines(int at, Strip had, int many) {
            int rows = had.count(LINE_END) * many;
            if (text.count + rows > MAX_LINES || widest(had) > MAX_SIGNS) {
                return false;
            }
            text.openLines(at, rows);
            int row = at;
            for (int i = 0; i < many; i++) {
                for (int j = 0; j < had.size; j++) {
                    if (had.signs[j] == LINE_END) {
                        row++;
                    } else {
                        text.putSigns(row, text.sizeOf(row), had.signs[j], 1);
                    }
                }
            }
            places.goToText(text, at);
            return true;
        }

        private boolean putRows(int top, int col, Strip had, int many) {
            int end = top + had.count(LINE_END) - 1;
            int each = widest(had);
            int wide = each * many;
            if (end >= MAX_LINES || col + wide > MAX_SIGNS) {
                return false;
            }
            for (int row = top; row <= end; row++) {
                if (text.sizeOf(row) + wide > MAX_SIGNS) {
                    return false;
                }
            }
            text.openLines(text.count, end + 1 - text.count);
            int place = 0;
            for (int row = top; row <= end; row++) {
                int rowEnd = had.find(LINE_END, place);
                text.putSigns(row, col, ' ', wide);
                for (int i = 0; i < wide; i++) {
                    int at = place + i % Math.max(1, each);
                    text.setSign(row, col + i, at < rowEnd ? had.at(at) : ' ');
                }
                place = rowEnd + 1;
            }
            places.go(text, top, col);
            return true;
        }

        /** The length of the longest row that a strip has. */
        private static int widest(Strip signs) {
            int widest = 0;
            int wide = 0;
            for (int i = 0; i < signs.size; i++) {
                wide = signs.signs[i] == LINE_END ? 0 : wide + 1;
                widest = Math.max(widest, wide);
            }
            return widest;
        }

        /** Brings the cursor to where i, a, I, A, o or O begins to insert; false if there is no room for a line. */
        boolean goToInsert(int act) {
            int row = places.row;
            int size = text.sizeOf(row);
            if (act == 'o' || act == 'O') {
                row = act == 'o' ? places.endOf(row) + 1 : places.topOf(row);
                if (text.count >= MAX_LINES) {
                    return false;
                }
                text.openLines(row, 1);
                places.put(row, 0);
            } else if (act == 'a') {
                places.put(row, Math.min(places.col + 1, size));
            } else if (act == 'I') {
                places.put(row, text.blanks(row));
            } else {
                places.put(row, act == 'A' ? size : places.col);
            }
            return true;
        }

        void beginInsertion() {
            begun = places.here();
            backTo = places.col;
            places.openFolds();
        }

        /** Does a key of an insertion but ESC; what cannot be done is passed over. */
        void insert(int key) {
            int row = places.row;
            int col = places.col;
            if (isSign(key) && text.sizeOf(row) < MAX_SIGNS) {
                text.putSigns(row, col, key, 1);
                places.put(row, col + 1);
            } else if (key == ENTER && text.count < MAX_LINES) {
                text.openLines(row + 1, 1);
                text.moveTail(row, col, row + 1);
                places.put(row + 1, 0);
                backTo = 0;
            } else if (key == BACK && col > backTo) {
                text.cut(row, col - 1, col);
                places.put(row, col - 1);
            }
        }

        /** Puts what was inserted some times more, if it fits, and brings the cursor to where ESC leaves it. */
        void endInsertion(int more) {
            Strip inserted = registers.span;
            inserted.clear();
            text.copyTo(begun, places.here(), inserted);
            int end = places.here();
            if (more > 0 && fits(places.row, places.col, inserted, more)) {
                end = putStrip(places.row, places.col, inserted, more);
            }
            places.go(text, end / 100, end % 100 - 1);
        }

        /** Moves lines behind another one (NONE: ahead of the first one); the cursor is on the last of them. */
        boolean moveLines(int top, int end, int behind) {
            int many = end - top + 1;
            if (behind >= top && behind < end) {
                return false;
            }
            int at = behind < top ? behind + 1 : behind + 1 - many;
            if (at != top) {
                spare.copyOf(text);
                text.dropLines(top, many);
                text.openLines(at, many);
                for (int i = 0; i < many; i++) {
                    text.copyLine(at + i, spare, top + i);
                }
            }
            places.goToText(text, at + many - 1);
            return true;
        }

        /** Sorts lines; those that are the same stay in their order. */
        void sortLines(int top, int end) {
            int[] order = new int[MAX_LINES];
            boolean changes = false;
            for (int i = top; i <= end && i < MAX_LINES; i++) {
                int at = i;
                while (at > top && text.compareLines(order[at - 1], i) > 0) {
                    order[at] = order[at - 1];
                    at--;
                    changes = true;
                }
                order[at] = i;
            }
            if (changes) {
                spare.copyOf(text);
                text.renewLines(top, end - top + 1);
                for (int i = top; i <= end && i < MAX_LINES; i++) {
                    text.copyLine(i, spare, order[i]);
                }
            }
            places.goToText(text, end);
        }

        /** Puts signs for the first place of others in each line, or for all; false if there is none, or no room. */
        boolean substitute(Strip old, Strip fresh, boolean all) {
            boolean found = false;
            for (int row = first; row <= last; row++) {
                int many = 0;
                int col = text.findIn(row, 0, old);
                while (col != NONE) {
                    many++;
                    col = all ? text.findIn(row, col + Math.max(1, old.size), old) : NONE;
                }
                found = found || many > 0;
                if (text.sizeOf(row) + many * (fresh.size - old.size) > MAX_SIGNS) {
                    return false;
                }
            }
            for (int row = first; row <= last && found; row++) {
                if (text.findIn(row, 0, old) != NONE) {
                    substituteIn(row, old, fresh, all);
                    places.goToText(text, row);
                }
            }
            return found;
        }

        private void substituteIn(int row, Strip old, Strip fresh, boolean all) {
            spare.copyOf(text);
            text.clearLine(row);
            int next = spare.findIn(row, 0, old);
            for (int col = 0; col < spare.sizeOf(row); col++) {
                if (col != next) {
                    text.putSigns(row, text.sizeOf(row), spare.signAt(row, col), 1);
                    continue;
                }
                for (int i = 0; i < fresh.size; i++) {
                    text.putSigns(row, text.sizeOf(row), fresh.signs[i], 1);
                }
                col += Math.max(1, old.size) - 1;
                next = all ? spare.findIn(row, col + 1, old) : NONE;
            }
        }
    }

    /** A command line: what its signs tell, and doing it. */
    private static final class Liner {
        private static final int SORT = 'o';
        /** No address, or one that is not there. */
        private static final int BAD = -2;

        private final Text text;
        private final Places places;
        private final Editor editor;
        /** The signs that were typed. */
        final Strip typed = new Strip(0);
        private Strip source = typed;
        private int at = 0;
        int first = 0;
        int last = 0;
        private boolean ranged = false;
        int verb = 0;
        /** Where in the line the keys of n, or the command of g, begin. */
        int inner = 0;
        private int behind = 0;
        private final Strip old = new Strip(0);
        private final Strip fresh = new Strip(0);
        private boolean all = false;
        /** The signs by which g marks lines. */
        private final Strip marked = new Strip(0);
        boolean global = false;

        Liner(Text text, Places places, Editor editor) {
            this.text = text;
            this.places = places;
            this.editor = editor;
        }

        /** Reads the line that was typed; false if it is no command. */
        boolean read() {
            source = typed;
            at = 0;
            first = places.row;
            last = first;
            ranged = false;
            global = false;
            if (!range()) {
                return false;
            }
            if (source.at(at) != 'g') {
                return command(at);
            }
            int end = source.find('/', at + 2);
            if (source.at(at + 1) != '/' || end <= at + 2) {
                return false;
            }
            marked.partOf(source, at + 2, end);
            global = true;
            if (!ranged) {
                first = 0;
                last = text.count - 1;
            }
            return command(end + 1) && verb != 'y' && verb != SORT;
        }

        /** Reads the command of g again, as it was typed, for one line. */
        boolean readAgain(Strip signs, int from, int row) {
            source = signs;
            first = row;
            last = row;
            return command(from);
        }

        private boolean range() {
            if (source.at(at) == '%') {
                at++;
                first = 0;
                last = text.count - 1;
                ranged = true;
                return true;
            }
            if (!beginsAddress(source.at(at))) {
                return true;
            }
            ranged = true;
            first = address();
            last = first;
            if (source.at(at) == ',') {
                at++;
                last = address();
            }
            return first >= 0 && last >= first;
        }

        private static boolean beginsAddress(int sign) {
            return sign >= '0' && sign <= '9' || sign == '.' || sign == '$' || sign == '\'';
        }

        /** The line of the address that stands next; NONE for 0, BAD if it is none or not there. */
        private int address() {
            int sign = source.at(at);
            int row = 0;
            if (sign == '.' || sign == '$' || sign == '\'') {
                row = sign == '.' ? places.row : text.count - 1;
                at++;
                if (sign == '\'') {
                    int place = places.markOf(source.at(at));
                    at++;
                    row = place == NONE ? BAD : place / 100;
                }
                return row;
            }
            if (sign < '0' || sign > '9') {
                return BAD;
            }
            while (source.at(at) >= '0' && source.at(at) <= '9') {
                row = Math.min(1000, row * 10 + source.at(at) - '0');
                at++;
            }
            return row > text.count ? BAD : row - 1;
        }

        /** Reads the command that begins at a place and goes on to the end of the line. */
        private boolean command(int from) {
            int left = source.size - from;
            verb = source.at(from);
            inner = from;
            switch (verb) {
                case 'd': case 'y': case '>': case '<': case 'j':
                    return left == 1;
                case 'n':
                    return left > 1;
                case 'm':
                    at = from + 1;
                    behind = address();
                    return behind != BAD && at == source.size;
                case 's':
                    if (source.at(from + 1) == '/') {
                        return substitution(from + 2);
                    }
                    verb = SORT;
                    return left == 4 && source.at(from + 1) == 'o' && source.at(from + 2) == 'r'
                        && source.at(from + 3) == 't';
                default:
                    return false;
            }
        }

        private boolean substitution(int from) {
            int middle = source.find('/', from);
            int end = middle == NONE ? NONE : source.find('/', middle + 1);
            if (end == NONE || middle == from) {
                return false;
            }
            old.partOf(source, from, middle);
            fresh.partOf(source, middle + 1, end);
            all = end + 2 == source.size && source.at(end + 1) == 'g';
            return all || end + 1 == source.size;
        }

        /** Whether n, or g, is to be done for a line. */
        boolean isFor(int row) {
            return row >= first && row <= last && (!global || text.findIn(row, 0, marked) != NONE);
        }

        /** Does the command that was read, which is not n; false if it fails. */
        boolean run() {
            editor.spanLines(first, last);
            switch (verb) {
                case 'd':
                    return editor.operate('d', 0);
                case 'y':
                    int row = places.row;
                    int col = places.col;
                    int wanted = places.wanted;
                    editor.operate('y', 0);
                    places.put(row, col);
                    places.wanted = wanted;
                    return true;
                case '>': case '<':
                    boolean shifts = editor.operate(verb, 0);
                    if (shifts) {
                        places.goToText(text, last);
                    }
                    return shifts;
                case 'j':
                    boolean joins = editor.join(first, Math.max(last, first + 1));
                    if (joins) {
                        places.goToText(text, first);
                    }
                    return joins;
                case 'm':
                    return editor.moveLines(first, last, behind);
                case SORT:
                    editor.sortLines(first, last);
                    return true;
                default:
                    return editor.substitute(old, fresh, all);
            }
        }
    }

    /** What still has to be played: keys of registers and of the last change, keys for lines, lines of g. */
    private static final class Player {
        static final int REGISTER = 0, LAST_CHANGE = 1, FOR_LINES = 2, GLOBAL = 3;
        private static final int ROOM = MAX_NESTED + 1;

        private final int[] kinds = new int[ROOM];
        private final Strip[] strips = new Strip[ROOM];
        private final int[] ats = new int[ROOM];
        private final int[] times = new int[ROOM];
        /** The names of the lines for which keys are played, or g does its command. */
        private final int[] names = new int[ROOM * MAX_LINES];
        private final int[] nameCounts = new int[ROOM];
        private final int[] nameAts = new int[ROOM];
        /** Whether the keys begin to play anew for each of the lines, as n does by g. */
        private final boolean[] afresh = new boolean[ROOM];
        int depth = 0;
        /** How many keys were played since a key was taken. */
        int played = 0;

        Player() {
            for (int i = 0; i < ROOM; i++) {
                strips[i] = new Strip(0);
            }
        }

        /** Puts one more on the pile; false if there are too many within one another. */
        boolean open(int kind, int many) {
            if (depth >= ROOM || kind != GLOBAL && depth >= MAX_NESTED) {
                return false;
            }
            kinds[depth] = kind;
            strips[depth].clear();
            ats[depth] = 0;
            times[depth] = many;
            nameCounts[depth] = 0;
            nameAts[depth] = 0;
            afresh[depth] = false;
            depth++;
            return true;
        }

        private int top() {
            return Math.max(0, Math.min(depth, ROOM) - 1);
        }

        boolean isOn(int kind) {
            return depth > 0 && kinds[top()] == kind;
        }

        Strip strip() {
            return strips[top()];
        }

        void addName(int name) {
            int top = top();
            if (nameCounts[top] < MAX_LINES) {
                names[top * MAX_LINES + nameCounts[top]] = name;
                nameCounts[top]++;
            }
        }

        boolean hasNames() {
            return nameCounts[top()] > 0;
        }

        /** Makes the keys those that were played already, so that the first line is gone to first. */
        void waitForLine(boolean isAfresh) {
            ats[top()] = strips[top()].size;
            afresh[top()] = isAfresh;
        }

        boolean isAfresh() {
            return afresh[top()];
        }

        boolean hasBegun() {
            return nameAts[top()] > 0;
        }

        /** The next line that is still there, NONE if there is no more. */
        int nextLine(Text text) {
            int top = top();
            while (nameAts[top] < nameCounts[top] && nameAts[top] < MAX_LINES) {
                int row = text.rowNamed(names[top * MAX_LINES + nameAts[top]]);
                nameAts[top]++;
                if (row != NONE) {
                    return row;
                }
            }
            return NONE;
        }

        boolean isThrough() {
            return ats[top()] >= strips[top()].size;
        }

        /** Begins the keys anew if they are to be played once more. */
        boolean begunAnew() {
            int top = top();
            times[top]--;
            ats[top] = 0;
            return times[top] > 0;
        }

        void beginKeys() {
            ats[top()] = 0;
        }

        void close() {
            depth = Math.max(0, depth - 1);
        }

        int nextKey() {
            int top = top();
            int key = strips[top].at(ats[top]);
            ats[top]++;
            played++;
            return key == LINE_END ? ENTER : key;
        }
    }

    /** The editor, as it is driven by keys that are taken. */
    private static final class Pad {
        /** What is to be done next; from PLAIN on a command in NORMAL or a selection. */
        static final int NOTHING = 0, DONE = 1, OF_LINE = 2, INSERTED = 3, PLAIN = 4, OPERATED = 5, SELECTED = 6;

        final Places places = new Places();
        final Text text = new Text(places);
        final Registers registers = new Registers();
        final States states = new States();
        final Finder finder = new Finder(text, places);
        private final Editor editor = new Editor(text, places, registers);
        final Liner liner = new Liner(text, places, editor);
        private final Player player = new Player();
        private final Command command = new Command();
        private final Command lastChange = new Command();
        /** The text as it was when the command began. */
        private final Text before = new Text(null);
        private final Strip none = new Strip(0);
        int mode = NORMAL;
        int failures = 0;
        /** Whether a command has failed since the last key was taken. */
        boolean failed = false;
        private int done = 0;
        private int pending = NONE;
        /** Whether the key is an ESC that n gives by itself. */
        private boolean escGiven = false;
        /** The further cursor that is next for the command, NONE without; and where it was. */
        int turn = NONE;
        private int turnBegan = NONE;

        Pad() {
            command.clear();
            states.add(text);
        }

        void begin(Strip signs) {
            mode = NORMAL;
            command.clear();
            player.depth = 0;
            pending = NONE;
            turn = NONE;
            registers.recording = NONE;
            text.read(signs);
            places.clear();
            states.clear();
            states.add(text);
        }

        /** The keys of a command so far, or the signs of a command line. */
        Strip givenKeys() {
            return mode == LINE ? liner.typed : mode == INSERT ? none : command.keys;
        }

        /** The mode of the maps that look at the next key, NONE without. */
        int mapsThatLook() {
            if (mode == INSERT) {
                return INSERT;
            }
            if (mode == LINE || command.keys.size > 0) {
                return NONE;
            }
            return mode == NORMAL ? NORMAL : SELECTION;
        }

        /** Takes a key, which steps do then; false if it is passed over. */
        boolean take(int key) {
            failed = false;
            if (done >= MAX_DONE) {
                return false;
            }
            done++;
            registers.record(key);
            player.played = 0;
            pending = key;
            return true;
        }

        /** Makes a state if what was done has changed the text. */
        void settle() {
            if (mode != INSERT && !states.isPresent(text)) {
                states.add(text);
            }
        }

        private void fail() {
            failures++;
            failed = true;
            player.depth = 0;
            if (mode != INSERT) {
                command.clear();
            }
        }

        /** Gives the next key to what it is for, and tells what is to be done by it; NOTHING if none is left. */
        int nextWork() {
            if (turn != NONE) {
                return beginTurn();
            }
            if (pending == NONE && player.isOn(Player.GLOBAL)) {
                return nextOfGlobal();
            }
            int key = nextKey();
            if (key == NONE) {
                return NOTHING;
            }
            if (mode == LINE) {
                return lineKey(key);
            }
            if (mode == INSERT) {
                command.keys.add(key);
                if (key == ESC) {
                    editor.endInsertion(command.isInsertion() ? command.times() - 1 : 0);
                    mode = NORMAL;
                    return INSERTED;
                }
                editor.insert(key);
                return DONE;
            }
            if (key == ESC) {
                dropKeys();
                return DONE;
            }
            int reading = command.accept(key, mode, registers.recording != NONE);
            if (reading == Command.BAD) {
                fail();
            }
            if (reading != Command.READY) {
                return DONE;
            }
            before.copyOf(text);
            return mode != NORMAL ? SELECTED : command.op != 0 ? OPERATED : PLAIN;
        }

        /** ESC drops what there is of a command; ahead of one it ends a selection, or leaves one cursor. */
        private void dropKeys() {
            if (command.keys.size > 0) {
                command.clear();
            } else if (mode == NORMAL) {
                places.otherCount = 0;
            } else {
                mode = NORMAL;
            }
        }

        /** The key that was taken, or the next one that is played; NONE if there is none. */
        private int nextKey() {
            escGiven = false;
            if (pending != NONE) {
                int key = pending;
                pending = NONE;
                return key;
            }
            for (int i = 0; i < FAR && player.depth > 0; i++) {
                if (!player.isThrough()) {
                    return playedKey();
                }
                if (!player.isOn(Player.FOR_LINES)) {
                    if (!player.begunAnew()) {
                        player.close();
                    }
                    continue;
                }
                if (player.hasBegun() && (mode != NORMAL || command.keys.size > 0)) {
                    escGiven = true;
                    return ESC;
                }
                int row = player.nextLine(text);
                if (row == NONE) {
                    player.close();
                } else {
                    player.beginKeys();
                    places.otherCount = player.isAfresh() ? 0 : places.otherCount;
                    places.go(text, row, 0);
                    places.hold(text);
                }
            }
            return NONE;
        }

        private int playedKey() {
            if (player.played >= MAX_PLAYED) {
                fail();
                return NONE;
            }
            done++;
            return player.nextKey();
        }

        private int nextOfGlobal() {
            int row = player.nextLine(text);
            if (row == NONE) {
                player.close();
                return DONE;
            }
            if (!liner.readAgain(player.strip(), liner.inner, row)) {
                fail();
                return DONE;
            }
            return OF_LINE;
        }

        private int lineKey(int key) {
            Strip typed = liner.typed;
            if (key == ENTER) {
                mode = NORMAL;
                boolean fine = liner.read();
                if (fine && !liner.global && liner.verb != 'n') {
                    return OF_LINE;
                }
                if (!fine || !playForLines()) {
                    fail();
                }
            } else if (key == ESC || key == BACK && typed.size == 0) {
                mode = NORMAL;
            } else if (key == BACK) {
                typed.dropLast();
            } else if (isSign(key) && typed.size < MAX_SIGNS) {
                typed.add(key);
            }
            return DONE;
        }

        /** Begins n, or g, for all lines that it is for; false if there is none, or no room on the pile. */
        private boolean playForLines() {
            boolean ofKeys = liner.verb == 'n';
            if (!player.open(ofKeys ? Player.FOR_LINES : Player.GLOBAL, 1)) {
                return false;
            }
            for (int row = liner.first; row <= liner.last; row++) {
                if (liner.isFor(row)) {
                    player.addName(text.nameOf(row));
                }
            }
            places.otherCount = 0;
            player.strip().partOf(liner.typed, ofKeys ? liner.inner + 1 : 0, liner.typed.size);
            player.waitForLine(liner.global);
            return player.hasNames();
        }

        void endWork(int work, boolean fine) {
            if (!fine) {
                fail();
            } else if (work == OF_LINE) {
                places.hold(text);
            } else if (work >= PLAIN) {
                if (!command.isForAll() && command.act != SPREAD) {
                    places.otherCount = 0;
                }
                places.orderOthers(NONE);
            }
            if (fine && work >= INSERTED && mode != INSERT) {
                places.hold(text);
                beginTurns();
            }
        }

        /** Begins to do the command at the further cursors, if it is one for them. */
        private void beginTurns() {
            if (places.otherCount == 0 || !command.isForAll()) {
                finish();
                return;
            }
            places.home = places.here();
            places.homeWanted = places.wanted;
            turn = places.otherCount - 1;
        }

        private int beginTurn() {
            turnBegan = places.others[turn];
            if (turnBegan == NONE) {
                return DONE;
            }
            places.others[turn] = NONE;
            places.go(text, turnBegan / 100, turnBegan % 100);
            done += command.whole;
            return command.op != 0 ? OPERATED : PLAIN;
        }

        void endTurn(int work, boolean fine) {
            if (work >= PLAIN && !fine) {
                places.others[turn] = turnBegan;
            } else if (work >= PLAIN) {
                if (mode == INSERT) {
                    insertOnceMore();
                }
                places.hold(text);
                places.others[turn] = places.here();
            }
            turn--;
            if (turn == NONE) {
                places.go(text, places.home / 100, places.home % 100);
                places.wanted = places.homeWanted;
                places.home = NONE;
                places.hold(text);
                places.cutOthers(text);
                places.orderOthers(places.here());
                finish();
            }
        }

        /** Does the insertion of the main cursor at another one. */
        private void insertOnceMore() {
            for (int i = command.whole; i < command.keys.size - 1; i++) {
                editor.insert(command.keys.at(i));
                done++;
            }
            done += escGiven ? 0 : 1;
            editor.endInsertion(command.isInsertion() ? command.times() - 1 : 0);
            mode = NORMAL;
        }

        /** Ends a command that did not fail: it may be the last change from now on. */
        private void finish() {
            boolean counts = player.isOn(Player.LAST_CHANGE) || !text.isLike(before);
            if (command.canBeDoneOnceMore() && counts) {
                lastChange.copyOf(command);
            }
            command.clear();
        }

        private void beginInsertion() {
            mode = INSERT;
            editor.beginInsertion();
        }

        boolean doOperator() {
            if (command.isObject) {
                if (!finder.object(command)) {
                    return false;
                }
                if (finder.ofLines) {
                    editor.spanLines(finder.from / 100, finder.to / 100);
                } else {
                    editor.spanSigns(finder.from, finder.to);
                }
            } else if (command.act == WHOLE_LINES) {
                if (!finder.someLines(command.times())) {
                    return false;
                }
                editor.spanMotion(finder, true);
            } else if (!finder.find(command, true)
                    || !editor.spanMotion(finder, command.act == 'j' || command.act == 'k')) {
                return false;
            }
            boolean empty = command.isObject && !finder.ofLines && finder.from == finder.to;
            if (empty && command.op != 'c' || !empty && !editor.operate(command.op, command.register)) {
                return false;
            }
            if (empty) {
                places.put(finder.from / 100, finder.from % 100);
            }
            finder.remember(command);
            if (command.op == 'c') {
                beginInsertion();
            }
            return true;
        }

        boolean doSelected() {
            if (command.op != 0) {
                editor.spanSelection(mode);
                if (!editor.operate(command.op, command.register)) {
                    return false;
                }
                mode = NORMAL;
                if (command.op == 'c') {
                    beginInsertion();
                }
                return true;
            }
            if (command.isObject) {
                return finder.object(command) && select();
            }
            if (command.isMotion()) {
                if (!finder.find(command, false)) {
                    return false;
                }
                arrive();
                finder.remember(command);
                return true;
            }
            boolean fine = true;
            if (command.act == 'J' || command.act == 'r') {
                editor.spanSelection(mode);
                fine = command.act == 'r' ? editor.replace(command.argument)
                    : editor.join(editor.first, Math.max(editor.last, editor.first + 1));
                mode = fine ? NORMAL : mode;
            } else if (command.act == 'o') {
                int end = places.here();
                places.go(text, places.anchor / 100, places.anchor % 100);
                places.anchor = end;
            } else {
                int other = command.act == 'v' ? SIGNS : command.act == 'V' ? LINES : RECTS;
                mode = other == mode ? NORMAL : other;
            }
            return fine;
        }

        /** Selects the object that was found; false if it is empty. */
        private boolean select() {
            if (!finder.ofLines && finder.from == finder.to) {
                return false;
            }
            places.anchor = finder.from;
            int row = finder.to / 100;
            if (finder.ofLines) {
                places.go(text, row, 0);
            } else if (finder.to % 100 > 0) {
                places.go(text, row, finder.to % 100 - 1);
            } else {
                places.go(text, row - 1, MAX_SIGNS);
            }
            mode = finder.ofLines ? LINES : SIGNS;
            return true;
        }

        /** Brings the cursor to where the motion leads. */
        private void arrive() {
            int row = finder.target / 100;
            if (command.act == 'j' || command.act == 'k') {
                places.goWanted(text, row);
            } else {
                places.go(text, row, finder.target % 100);
            }
            if (command.act == '$') {
                places.wanted = Places.LAST_COLUMN;
            }
        }

        boolean doPlain() {
            int act = command.act;
            int many = command.times();
            if (command.isMotion()) {
                if (!finder.find(command, false)) {
                    return false;
                }
                if (turn == NONE && command.leaps()) {
                    places.keepJump(places.here());
                }
                arrive();
                finder.remember(command);
                return true;
            }
            switch (act) {
                case 'J':
                    return editor.join(places.row, places.row + Math.max(2, many) - 1);
                case 'r':
                    return editor.replaceHere(command.argument, many);
                case '~':
                    return editor.swapHere(many);
                case 'p': case 'P':
                    return editor.put(command.register, many, act == 'p');
                case 'i': case 'a': case 'I': case 'A': case 'o': case 'O':
                    if (!editor.goToInsert(act)) {
                        return false;
                    }
                    beginInsertion();
                    return true;
                case 'u': case REDO: case STATE_BEFORE: case STATE_BEHIND:
                    return goToState(act, many);
                case OLDER:
                    return places.goOlder(text, many);
                case NEWER:
                    return places.goNewer(text, many);
                default:
                    return doOther(act, many);
            }
        }

        private boolean doOther(int act, int many) {
            switch (act) {
                case 'm':
                    places.setMark(command.argument);
                    return true;
                case 'v': case 'V': case RECT:
                    mode = act == 'v' ? SIGNS : act == 'V' ? LINES : RECTS;
                    places.anchor = places.here();
                    return true;
                case ':':
                    mode = LINE;
                    liner.typed.clear();
                    return true;
                case '.':
                    if (lastChange.keys.size == 0 || !player.open(Player.LAST_CHANGE, 1)) {
                        return false;
                    }
                    lastChange.spell(player.strip(), command.count);
                    return true;
                case 'q':
                    return recordKeys();
                case '@':
                    return playRegister(many);
                case SPREAD:
                    return finder.spread();
                default:
                    return places.changeFold(act);
            }
        }

        private boolean goToState(int act, int many) {
            int reached = player.depth > 0 ? NONE : states.reached(act, many);
            Text other = states.textOf(reached);
            if (other == null) {
                return false;
            }
            int row = text.firstDifference(other);
            states.present = reached;
            text.copyOf(other);
            places.cutTo(text.count);
            if (row == NONE) {
                places.wanted = places.col;
            } else {
                places.goToText(text, row);
            }
            return true;
        }

        private boolean recordKeys() {
            if (player.depth > 0) {
                return false;
            }
            if (registers.recording != NONE) {
                registers.endRecording();
            } else {
                registers.beginRecording(command.argument);
            }
            return true;
        }

        private boolean playRegister(int many) {
            int letter = command.argument == '@' ? registers.played : command.argument;
            Strip had = registers.named(letter);
            if (letter == NONE || had.size == 0 || !player.open(Player.REGISTER, many)) {
                return false;
            }
            player.strip().copyOf(had, MAX_PLAYED + 1);
            registers.played = letter;
            return true;
        }

        /** Whether another pad has come to the same. */
        boolean isLike(Pad other) {
            return text.isLike(other.text) && places.here() == other.places.here() && mode == other.mode
                && registers.isLike(other.registers) && givenKeys().isLike(other.givenKeys())
                && failures == other.failures && states.present == other.states.present;
        }
    }
}
