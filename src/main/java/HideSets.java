import java.util.Arrays;
import java.util.NoSuchElementException;

/**
 * A preprocessor that scans again exactly. What each call of the face answers is told in the
 * document; the classes inside hold the FILES (Page, Source), the bytes and TOKENS (Text, Row),
 * the MACROS, the EXPANDING (Expander, Frame), E (Sums), a RUN (Runner) and the RUNS by all
 * SETTINGS (Study). All rows are made once, by constructors, and used again by every call.
 */
public final class HideSets {
    public static final int NONE = -1;

    private static final int FAILED = -2;
    private static final int TOO_MANY = -3;
    private static final int WRONG_BYTE = -1000;

    private static final int FILES = 4;
    private static final int FILE_BYTES = 400;
    /** A last LINE of a FILE may come without its 10, which is put behind it. */
    private static final int PAGE_BYTES = FILE_BYTES + 1;
    private static final int FILE_LINES = 40;
    private static final int ALL_LINES = FILES * FILE_LINES;
    private static final int TAPE_BYTES = 440;
    private static final int FED_NUMBERS = 5;
    private static final int NEWLINE = 10;
    private static final int BLANK = 32;
    private static final int LAST_BYTE = 126;

    private static final int TOKEN_BYTES = 30;
    private static final int NAME = 0;
    private static final int NUMBER = 1;
    private static final int STRING = 2;
    private static final int SIGN = 3;

    private static final int SWITCHES = 3;
    private static final int SETTINGS = 8;
    private static final int MACROS = 12;
    private static final int PARAMETERS = 4;
    private static final int BODY_TOKENS = 20;
    private static final int EXPANSIONS = 100;
    private static final int REPLACED_TOKENS = 30;
    private static final int OUT_TOKENS = 300;
    private static final int INCLUDES = 12;
    private static final int INCLUDES_WITHIN = 6;
    private static final int SUMS_WITHIN = 8;
    /** Far above the LINES of 13 FILES and their ends. */
    private static final int RUN_STEPS = 1000000;

    /** A LINE's TOKENS and all by which its NAMES can be replaced. */
    private static final int ROW_TOKENS = TAPE_BYTES + EXPANSIONS * REPLACED_TOKENS;
    /** A BODY of 20 TOKENS makes at most ten STRINGS or nine pastes, each time it replaces. */
    private static final int MADE_BYTES = EXPANSIONS * 10 * TOKEN_BYTES;

    private static final int SWITCH_AT = FILES * PAGE_BYTES;
    private static final int DIGITS_AT = SWITCH_AT + SWITCHES * TOKEN_BYTES;
    private static final int LINE_AT = DIGITS_AT + 2;
    private static final int SUM_AT = LINE_AT + TAPE_BYTES;
    private static final int MADE_AT = SUM_AT + TAPE_BYTES;

    private static final int FAULT_TOKEN = 1;
    private static final int FAULT_DIRECTIVE = 2;
    private static final int FAULT_BRACKET = 3;
    private static final int FAULT_ARGUMENTS = 4;
    private static final int FAULT_DEFINED = 5;
    private static final int FAULT_PASTE = 6;
    private static final int FAULT_MANY = 7;
    private static final int FAULT_SUM = 8;
    private static final int FAULT_DIVISION = 9;
    private static final int FAULT_GROUP = 10;
    private static final int FAULT_INCLUDE = 11;

    private static final int TALLIES = 10;
    private static final int TEXT_LINES = 1;
    private static final int SKIPPED = 2;
    private static final int BEGUN = 3;
    private static final int SPARED = 4;
    private static final int DEEPEST = 5;
    private static final int REPLACINGS = 6;
    private static final int PASTED = 7;
    private static final int STRINGS = 8;
    private static final int CONDITIONS = 9;

    /** What a LINE is of a group. */
    private static final int NO_WORD = 0;
    private static final int OPENS = 1;
    private static final int ELIF = 2;
    private static final int ELSE = 3;
    private static final int ENDIF = 4;

    private final byte[] tape = new byte[TAPE_BYTES];
    private int tapeSize = 0;
    private final Source source = new Source();
    private final Source[] kept = new Source[2];
    private final boolean[] isKept = new boolean[2];
    private final byte[] guardName = new byte[TOKEN_BYTES];
    private int guardSize = 0;
    private final Runner runner = new Runner(2);
    /** Made when it is first asked for: most objects never need its room. */
    private Study study = null;

    public HideSets() {
        for (int k = 0; k < kept.length; k++) {
            kept[k] = new Source();
        }
    }

    public int feed(int a, int b, int c, int d, int e) {
        if (tapeSize + 4 * FED_NUMBERS > TAPE_BYTES) {
            return NONE;
        }
        putNumber(a);
        putNumber(b);
        putNumber(c);
        putNumber(d);
        putNumber(e);
        return tapeSize;
    }

    private void putNumber(int number) {
        for (int shift = 24; shift >= 0 && tapeSize < TAPE_BYTES; shift -= 8) {
            tape[tapeSize] = (byte) (number >> shift);
            tapeSize++;
        }
    }

    public boolean end(int n) {
        if (n < 0 || n > tapeSize) {
            return false;
        }
        tapeSize = n;
        return true;
    }

    public int file(int k) {
        int bytes = takeTape();
        if (k < 0 || k >= FILES) {
            return FAILED;
        }
        if (bytes > FILE_BYTES) {
            return TOO_MANY;
        }
        int wrong = wrongByte(bytes, NEWLINE);
        if (wrong != NONE) {
            return WRONG_BYTE - wrong;
        }
        if (linesOnTape(bytes) > FILE_LINES) {
            return TOO_MANY;
        }
        source.pages[k].read(tape, bytes);
        forgetStudy();
        return source.pages[k].size;
    }

    /** Empties the tape; its bytes stay in their array until they are fed over. */
    private int takeTape() {
        int bytes = tapeSize;
        tapeSize = 0;
        return bytes;
    }

    private void forgetStudy() {
        if (study != null) {
            study.looked = NONE;
        }
    }

    private Study theStudy() {
        if (study == null) {
            study = new Study();
        }
        return study;
    }

    private int wrongByte(int bytes, int allowed) {
        for (int i = 0; i < bytes && i < TAPE_BYTES; i++) {
            if ((tape[i] < BLANK || tape[i] > LAST_BYTE) && tape[i] != allowed) {
                return i;
            }
        }
        return NONE;
    }

    private int linesOnTape(int bytes) {
        int found = 0;
        for (int i = 0; i < bytes && i < TAPE_BYTES; i++) {
            if (tape[i] == NEWLINE || i == bytes - 1) {
                found++;
            }
        }
        return found;
    }

    public int switches() {
        int bytes = takeTape();
        int found = source.readSwitches(tape, bytes);
        if (found != NONE) {
            forgetStudy();
        }
        return found;
    }

    public int set(int setting) {
        if (!source.hasSetting(setting)) {
            return NONE;
        }
        source.setting = setting;
        return 0;
    }

    public int run(int k) {
        if (!source.hasFile(k)) {
            return NONE;
        }
        runner.start(source, k, source.setting);
        boolean more = true;
        for (int n = 0; n < RUN_STEPS && more; n++) {
            more = runner.doLine();
        }
        return runner.fault.kind != 0 ? FAILED : runner.out.size;
    }

    public int fault(int what) {
        int kind = runner.fault.kind;
        int look = runner.fault.look;
        if (what == 0) {
            return kind;
        }
        if (kind == 0) {
            return NONE;
        }
        switch (what) {
            case 1:
                return Row.fileOf(look);
            case 2:
                return Row.lineOf(look);
            case 3:
                return Row.placeOf(look);
            default:
                return NONE;
        }
    }

    public int expand() {
        int bytes = takeTape();
        return runner.spread(tape, bytes) ? runner.out.size : FAILED;
    }

    public long value() throws NoSuchElementException {
        int bytes = takeTape();
        long worth = runner.worth(tape, bytes);
        if (runner.fault.kind != 0) {
            throw new NoSuchElementException();
        }
        return worth;
    }

    public int token(int k, int what) throws NoSuchElementException {
        if (k < 0 || k >= runner.out.size) {
            throw new NoSuchElementException();
        }
        int look = runner.out.look[k];
        switch (what) {
            case 0:
                return Row.kindOf(look);
            case 1:
                return Row.lengthOf(look);
            case 2:
                return Row.fileOf(look);
            case 3:
                return Row.lineOf(look);
            case 4:
                return Row.placeOf(look);
            case 5:
                return runner.out.hide[k];
            case 6:
                return Row.blankOf(look);
            default:
                throw new NoSuchElementException();
        }
    }

    public int tokenAt(int k, int i) {
        if (k < 0 || k >= runner.out.size || i < 0 || i >= Row.lengthOf(runner.out.look[k])) {
            return NONE;
        }
        return runner.text.byteAt(runner.out.at[k] + i);
    }

    public int macro(int m, int what) throws NoSuchElementException {
        Macros macros = runner.macros;
        if (m < 0 || m >= macros.size) {
            throw new NoSuchElementException();
        }
        boolean stands = macros.stands[m];
        switch (what) {
            case 0:
                return stands ? 1 : 0;
            case 1:
                return stands ? macros.parameters[m] : NONE;
            case 2:
                return stands ? macros.bodySize[m] : NONE;
            case 3:
                return stands ? macros.fileOf[m] : NONE;
            case 4:
                return stands ? macros.lineOf[m] : NONE;
            case 5:
                return macros.used[m];
            default:
                throw new NoSuchElementException();
        }
    }

    public int macroAt(int m, int i) {
        Macros macros = runner.macros;
        if (m < 0 || m >= macros.size || i < 0 || i >= macros.nameLength[m]) {
            return NONE;
        }
        return runner.text.byteAt(macros.nameAt[m] + i);
    }

    public int now(int what) {
        if (what < 0 || what >= TALLIES) {
            return NONE;
        }
        return what == 0 ? runner.macros.size : runner.tally[what];
    }

    public int passed(int f, int l) {
        if (!source.hasLine(f, l)) {
            return NONE;
        }
        return runner.done[f * FILE_LINES + l];
    }

    public int presence(int k, int f, int l) {
        if (!source.hasFile(k) || !source.hasLine(f, l)) {
            return NONE;
        }
        Study all = theStudy();
        all.look(source, k);
        return all.present[f * FILE_LINES + l];
    }

    public int outcomes(int k) {
        if (!source.hasFile(k)) {
            return NONE;
        }
        Study all = theStudy();
        all.look(source, k);
        return all.unlike(1 << source.switchCount);
    }

    public int like(int k, int setting) {
        if (!source.hasFile(k) || !source.hasSetting(setting)) {
            return NONE;
        }
        Study all = theStudy();
        all.look(source, k);
        return all.least[setting];
    }

    public int depends(int k) {
        if (!source.hasFile(k)) {
            return NONE;
        }
        Study all = theStudy();
        all.look(source, k);
        return all.changing(source.switchCount);
    }

    public int guard(int k) {
        if (!source.hasFile(k)) {
            return NONE;
        }
        Page page = source.pages[k];
        if (page.guardLength > 0 && page.guardLength <= TOKEN_BYTES) {
            guardSize = page.guardLength;
            System.arraycopy(page.text, page.guardFrom, guardName, 0, guardSize);
        }
        return page.guardLength;
    }

    public int guardAt(int i) {
        return i < 0 || i >= guardSize ? NONE : guardName[i];
    }

    public int nextOf(int f, int l) {
        return source.hasLine(f, l) ? source.pages[f].follower(l) : NONE;
    }

    public int edit(int f, int l) {
        int bytes = takeTape();
        if (!source.hasFile(f) || l < 0 || l > source.pages[f].size) {
            return FAILED;
        }
        int wrong = wrongByte(bytes, BLANK);
        if (wrong != NONE) {
            return WRONG_BYTE - wrong;
        }
        if (!source.pages[f].change(l, tape, bytes)) {
            return TOO_MANY;
        }
        forgetStudy();
        return source.pages[f].size;
    }

    public int drop(int f, int l) {
        if (!source.hasLine(f, l)) {
            return NONE;
        }
        source.pages[f].takeOut(l);
        forgetStudy();
        return source.pages[f].size;
    }

    public boolean image(int k) {
        if (k < 0 || k >= kept.length) {
            return false;
        }
        kept[k].copy(source);
        isKept[k] = true;
        return true;
    }

    public boolean restore(int k) {
        if (k < 0 || k >= kept.length || !isKept[k]) {
            return false;
        }
        source.copy(kept[k]);
        forgetStudy();
        return true;
    }

    public int count(int what) {
        switch (what) {
            case 0:
                return source.filesTold();
            case 1:
                return source.switchCount;
            case 2:
                return source.setting;
            case 3:
                return tapeSize;
            default:
                return NONE;
        }
    }

    public int lines(int k) {
        return source.hasFile(k) ? source.pages[k].size : NONE;
    }

    /** One FILE: its LINES, each with a 10 behind it, and what they are of groups. */
    private static final class Page {
        final byte[] text = new byte[PAGE_BYTES];
        /** Where each LINE begins, and behind the last one where the next would. */
        final int[] start = new int[FILE_LINES + 1];
        final int[] word = new int[FILE_LINES];
        int size = 0;
        boolean told = false;
        int guardFrom = 0;
        int guardLength = 0;

        /** Takes bytes that were looked at: 400 and 40 LINES at most. */
        void read(byte[] bytes, int many) {
            told = true;
            size = 0;
            int to = 0;
            for (int i = 0; i < many && i < bytes.length && to < PAGE_BYTES; i++) {
                text[to] = bytes[i];
                to++;
                if (bytes[i] == NEWLINE) {
                    closeLine(to);
                }
            }
            if (to > start[size] && to < PAGE_BYTES) {
                text[to] = NEWLINE;
                closeLine(to + 1);
            }
            mark();
        }

        private void closeLine(int next) {
            if (size < FILE_LINES) {
                size++;
                start[size] = next;
            }
        }

        /** Puts a LINE in place of LINE l, or behind the last one: whether there is room. */
        boolean change(int l, byte[] bytes, int many) {
            boolean more = l == size;
            int tail = more ? start[size] : start[l + 1];
            int shift = start[l] + many + 1 - tail;
            if (start[size] + shift > FILE_BYTES || more && size >= FILE_LINES) {
                return false;
            }
            if (more) {
                size++;
                start[size] = tail;
            }
            System.arraycopy(text, tail, text, tail + shift, start[size] - tail);
            System.arraycopy(bytes, 0, text, start[l], many);
            text[start[l] + many] = NEWLINE;
            for (int i = l + 1; i <= size; i++) {
                start[i] += shift;
            }
            mark();
            return true;
        }

        void takeOut(int l) {
            int gap = start[l + 1] - start[l];
            System.arraycopy(text, start[l + 1], text, start[l], start[size] - start[l + 1]);
            for (int i = l + 1; i < size; i++) {
                start[i] = start[i + 1] - gap;
            }
            size--;
            mark();
        }

        void copy(Page other) {
            System.arraycopy(other.text, 0, text, 0, PAGE_BYTES);
            System.arraycopy(other.start, 0, start, 0, FILE_LINES + 1);
            System.arraycopy(other.word, 0, word, 0, FILE_LINES);
            size = other.size;
            told = other.told;
            guardFrom = other.guardFrom;
            guardLength = other.guardLength;
        }

        /** Where the first byte that is no blank stands; where the LINE ends, if there is none. */
        int firstOf(int l) {
            return skipBlanks(start[l], start[l + 1] - 1);
        }

        private int skipBlanks(int from, int to) {
            int i = from;
            while (i < to && text[i] == BLANK) {
                i++;
            }
            return i;
        }

        private int skipWord(int from, int to) {
            int i = from;
            while (i < to && Text.isWord(text[i])) {
                i++;
            }
            return i;
        }

        /** LINES are told of a group once here, so that a RUN need not look again. */
        private void mark() {
            for (int l = 0; l < size; l++) {
                word[l] = wordOf(l);
            }
            guardLength = guardOf();
        }

        private int wordOf(int l) {
            int to = start[l + 1] - 1;
            int hash = firstOf(l);
            if (hash >= to || text[hash] != '#') {
                return NO_WORD;
            }
            int from = skipBlanks(hash + 1, to);
            int behind = skipWord(from, to);
            if (Text.says(text, from, behind, "if") || Text.says(text, from, behind, "ifdef")
                    || Text.says(text, from, behind, "ifndef")) {
                return OPENS;
            }
            if (Text.says(text, from, behind, "elif")) {
                return ELIF;
            }
            if (Text.says(text, from, behind, "else")) {
                return ELSE;
            }
            return Text.says(text, from, behind, "endif") ? ENDIF : NO_WORD;
        }

        /** How many bytes the NAME has that guards this FILE; 0: none does. */
        private int guardOf() {
            int first = 0;
            while (first < size && firstOf(first) == start[first + 1] - 1) {
                first++;
            }
            int last = size - 1;
            while (last > first && firstOf(last) == start[last + 1] - 1) {
                last--;
            }
            if (first >= last || follower(first) != last || word[last] != ENDIF) {
                return 0;
            }
            return guardedBy(first);
        }

        /** How many bytes the NAME has, if the LINE is just # ifndef NAME. */
        private int guardedBy(int l) {
            int to = start[l + 1] - 1;
            int from = skipBlanks(firstOf(l) + 1, to);
            int behind = skipWord(from, to);
            if (!Text.says(text, from, behind, "ifndef")) {
                return 0;
            }
            guardFrom = skipBlanks(behind, to);
            int length = skipWord(guardFrom, to) - guardFrom;
            boolean isName = length > 0 && length <= TOKEN_BYTES && !Text.isDigit(text[guardFrom]);
            return isName && skipBlanks(guardFrom + length, to) == to ? length : 0;
        }

        /** The next LINE of the group that LINE l is of. */
        int follower(int l) {
            if (word[l] == NO_WORD || word[l] == ENDIF || word[l] != OPENS && !isWithin(l)) {
                return NONE;
            }
            int within = 0;
            for (int i = l + 1; i < size; i++) {
                if (word[i] >= ELIF && within == 0) {
                    return i;
                }
                within += word[i] == OPENS ? 1 : word[i] == ENDIF ? -1 : 0;
            }
            return NONE;
        }

        private boolean isWithin(int l) {
            int within = 0;
            for (int i = 0; i < l; i++) {
                if (word[i] == OPENS) {
                    within++;
                } else if (word[i] == ENDIF && within > 0) {
                    within--;
                }
            }
            return within > 0;
        }
    }

    /** What an image keeps: FILES, SWITCHES, SETTING. */
    private static final class Source {
        final Page[] pages = new Page[FILES];
        final byte[][] switchName = new byte[SWITCHES][TOKEN_BYTES];
        final int[] switchLength = new int[SWITCHES];
        int switchCount = 0;
        int setting = 0;
        private final int[] namesFrom = new int[SWITCHES];
        private final int[] namesTo = new int[SWITCHES];

        Source() {
            for (int k = 0; k < FILES; k++) {
                pages[k] = new Page();
            }
        }

        boolean hasFile(int k) {
            return k >= 0 && k < FILES && pages[k].told;
        }

        boolean hasLine(int f, int l) {
            return hasFile(f) && l >= 0 && l < pages[f].size;
        }

        boolean hasSetting(int wanted) {
            return wanted >= 0 && wanted < 1 << switchCount;
        }

        int filesTold() {
            int found = 0;
            for (int k = 0; k < FILES; k++) {
                found += pages[k].told ? 1 : 0;
            }
            return found;
        }

        /** How many SWITCHES the bytes tell; NONE, and nothing is changed, if they don't. */
        int readSwitches(byte[] bytes, int many) {
            int found = findNames(bytes, many);
            if (found == NONE) {
                return NONE;
            }
            for (int k = 0; k < found; k++) {
                switchLength[k] = namesTo[k] - namesFrom[k];
                System.arraycopy(bytes, namesFrom[k], switchName[k], 0, switchLength[k]);
            }
            switchCount = found;
            setting = 0;
            return found;
        }

        private int findNames(byte[] bytes, int many) {
            int found = 0;
            int i = 0;
            while (i < many && i < bytes.length) {
                int from = i;
                while (i < many && Text.isWord(bytes[i])) {
                    i++;
                }
                if (i == from && bytes[i] != BLANK) {
                    return NONE;
                }
                if (i == from) {
                    i++;
                } else if (found < SWITCHES && isNewName(bytes, from, i, found)) {
                    namesFrom[found] = from;
                    namesTo[found] = i;
                    found++;
                } else {
                    return NONE;
                }
            }
            return found;
        }

        private boolean isNewName(byte[] bytes, int from, int to, int found) {
            if (to - from > TOKEN_BYTES || Text.isDigit(bytes[from])
                    || Text.says(bytes, from, to, "defined")) {
                return false;
            }
            for (int k = 0; k < found; k++) {
                int length = namesTo[k] - namesFrom[k];
                if (length == to - from && Text.isAlike(bytes, from, namesFrom[k], length)) {
                    return false;
                }
            }
            return true;
        }

        void copy(Source other) {
            for (int k = 0; k < FILES; k++) {
                pages[k].copy(other.pages[k]);
            }
            for (int k = 0; k < SWITCHES; k++) {
                System.arraycopy(other.switchName[k], 0, switchName[k], 0, TOKEN_BYTES);
                switchLength[k] = other.switchLength[k];
            }
            switchCount = other.switchCount;
            setting = other.setting;
        }
    }

    /**
     * The bytes of all TOKENS of a Runner: first those of the FILES as they were when the RUN
     * began, of SWITCHES and tapes; then those that are made by pasting and by #.
     */
    private static final class Text {
        final byte[] bytes;
        int top = MADE_AT;

        Text(int made) {
            bytes = new byte[MADE_AT + made];
            bytes[DIGITS_AT] = '0';
            bytes[DIGITS_AT + 1] = '1';
        }

        int byteAt(int i) {
            return i < 0 || i >= bytes.length ? 0 : bytes[i];
        }

        static boolean isDigit(int c) {
            return c >= '0' && c <= '9';
        }

        static boolean isWord(int c) {
            return c >= 'a' && c <= 'z' || c >= 'A' && c <= 'Z' || c == '_' || c >= '0' && c <= '9';
        }

        static boolean says(byte[] bytes, int from, int to, String word) {
            if (to - from != word.length() || from < 0 || to > bytes.length) {
                return false;
            }
            for (int i = 0; i < word.length(); i++) {
                if (bytes[from + i] != word.charAt(i)) {
                    return false;
                }
            }
            return true;
        }

        static boolean isAlike(byte[] bytes, int a, int b, int length) {
            if (a < 0 || b < 0 || a + length > bytes.length || b + length > bytes.length) {
                return false;
            }
            for (int i = 0; i < length; i++) {
                if (bytes[a + i] != bytes[b + i]) {
                    return false;
                }
            }
            return true;
        }

        /** Where the TOKEN ends that begins at a byte that is no blank; NONE: it is no TOKEN. */
        int endOf(int from, int to) {
            if (from < 0 || from >= to || to > bytes.length) {
                return NONE;
            }
            int c = bytes[from];
            int i = from + 1;
            if (isWord(c)) {
                while (i < to && isWord(bytes[i])) {
                    i++;
                }
                return i;
            }
            if (c == '"') {
                while (i < to && bytes[i] != '"') {
                    i++;
                }
                return i < to ? i + 1 : NONE;
            }
            return i < to && isPair(c, bytes[i]) ? i + 1 : i;
        }

        private static boolean isPair(int c, int d) {
            if (d == '=' && (c == '!' || c == '<' || c == '>')) {
                return true;
            }
            return c == d && (c == '#' || c == '=' || c == '&' || c == '|' || c == '<' || c == '>');
        }

        /** The kind of a TOKEN by its first byte. */
        int kindAt(int from) {
            int c = byteAt(from);
            if (!isWord(c)) {
                return c == '"' ? STRING : SIGN;
            }
            return isDigit(c) ? NUMBER : NAME;
        }

        /** The SIGN as a number, its first byte the lowest; 0: it is no SIGN. */
        int signOf(int at, int look) {
            int shape = look & Row.SHAPE_BITS;
            if (shape == Row.ONE_BYTE && at >= 0 && at < bytes.length) {
                return bytes[at];
            }
            if (shape == Row.TWO_BYTES && at >= 0 && at + 1 < bytes.length) {
                return bytes[at] | bytes[at + 1] << 8;
            }
            return 0;
        }
    }

    /** TOKENS: where their bytes are, how they look (packed), which MACROS they hide. */
    private static final class Row {
        static final int BLANK_BIT = 1 << 7;
        /** Length and kind; then those of the SIGNS. */
        static final int SHAPE_BITS = 127;
        static final int ONE_BYTE = SIGN << 5 | 1;
        static final int TWO_BYTES = SIGN << 5 | 2;
        static final int ONE_DIGIT = NUMBER << 5 | 1;
        /** The bits of a look that are no ORIGIN: length, kind, BLANK. */
        static final int OWN_BITS = 255;

        final int[] at;
        final int[] look;
        final int[] hide;
        int size = 0;

        Row(int room) {
            at = new int[room];
            look = new int[room];
            hide = new int[room];
        }

        boolean add(int where, int how, int hidden) {
            if (size >= at.length) {
                return false;
            }
            at[size] = where;
            look[size] = how;
            hide[size] = hidden;
            size++;
            return true;
        }

        static int lengthOf(int look) {
            return look & 31;
        }

        static int kindOf(int look) {
            return look >> 5 & 3;
        }

        static int blankOf(int look) {
            return look >> 7 & 1;
        }

        static int placeOf(int look) {
            return look >> 8 & 511;
        }

        static int fileOf(int look) {
            return (look >> 17 & 7) - 1;
        }

        static int lineOf(int look) {
            return (look >> 20 & 63) - 1;
        }

        /** The look of nothing at a place; NONE as FILE and LINE: on the tape. */
        static int origin(int file, int line, int place) {
            return place << 8 | file + 1 << 17 | line + 1 << 20;
        }

        static int shape(int kind, int length) {
            return kind << 5 | length;
        }

        /** How a TOKEN looks that comes in place of another: its ORIGIN. */
        static int from(int look, int origin) {
            return look & OWN_BITS | origin & ~OWN_BITS;
        }

        static int blankAs(int look, int other) {
            return look & ~BLANK_BIT | other & BLANK_BIT;
        }
    }

    /** The first FAULT that is met. */
    private static final class Fault {
        int kind = 0;
        /** The look of the TOKEN, or of the LINE's end, that has it. */
        int look = 0;

        void clear() {
            kind = 0;
            look = 0;
        }

        void meet(int what, int where) {
            if (kind == 0) {
                kind = what;
                look = where;
            }
        }
    }

    /** The MACROS of a RUN, numbered; a BODY is kept as the items by which it replaces. */
    private static final class Macros {
        /** What an item may be: an ARGUMENT, as it is; a STRING; one that a ## is ahead of. */
        static final int PLAIN = 0;
        static final int ARGUMENT = 1;
        static final int RAW = 2;
        static final int TO_STRING = 4;
        static final int GLUED = 8;
        private static final int PASTE = '#' | '#' << 8;

        int size = 0;
        final int[] nameAt = new int[MACROS];
        final int[] nameLength = new int[MACROS];
        final boolean[] stands = new boolean[MACROS];
        final int[] parameters = new int[MACROS];
        final int[] bodySize = new int[MACROS];
        final int[] fileOf = new int[MACROS];
        final int[] lineOf = new int[MACROS];
        final int[] used = new int[MACROS];
        final int[] items = new int[MACROS];
        final int[] itemWhat = new int[MACROS * BODY_TOKENS];
        final int[] itemParameter = new int[MACROS * BODY_TOKENS];
        final int[] itemAt = new int[MACROS * BODY_TOKENS];
        final int[] itemLook = new int[MACROS * BODY_TOKENS];
        private final Text text;
        private final Fault fault;
        /** Which TOKENS of the LINE are the PARAMETERS that are told now. */
        private final int[] told = new int[PARAMETERS];
        private int toldCount = 0;

        Macros(Text text, Fault fault) {
            this.text = text;
            this.fault = fault;
        }

        /** The number of a NAME; NONE: it never was a MACRO of this RUN. */
        int numberOf(int at, int length) {
            for (int m = 0; m < size && m < MACROS; m++) {
                if (nameLength[m] == length && Text.isAlike(text.bytes, at, nameAt[m], length)) {
                    return m;
                }
            }
            return NONE;
        }

        /** The number of a NAME that is a MACRO now; NONE: it is none. */
        int standing(int at, int length) {
            int m = numberOf(at, length);
            return m != NONE && stands[m] ? m : NONE;
        }

        void addSwitch(int at, int length, boolean isDefined) {
            if (size >= MACROS) {
                return;
            }
            int m = size;
            enter(m, at, length);
            stands[m] = isDefined;
            parameters[m] = NONE;
            bodySize[m] = 1;
            fileOf[m] = NONE;
            lineOf[m] = NONE;
            items[m] = 0;
            addItem(m, PLAIN, NONE, DIGITS_AT + 1, Row.shape(NUMBER, 1));
        }

        private void enter(int m, int at, int length) {
            if (m == size) {
                size++;
                used[m] = 0;
            }
            nameAt[m] = at;
            nameLength[m] = length;
        }

        private void addItem(int m, int what, int parameter, int at, int look) {
            int k = m * BODY_TOKENS + items[m];
            if (items[m] < BODY_TOKENS && k < itemWhat.length) {
                itemWhat[k] = what;
                itemParameter[k] = parameter;
                itemAt[k] = at;
                itemLook[k] = look;
                items[m]++;
            }
        }

        /** Does # define NAME ..; the ending is the look of the LINE's end. */
        void define(Row row, int ending) {
            int m = newNumber(row, ending);
            if (m == NONE || m >= MACROS) {
                return;
            }
            int from = 3;
            int many = NONE;
            toldCount = 0;
            if (isSign(row, 3, '(') && Row.blankOf(row.look[3]) == 0) {
                from = tellParameters(row, ending);
                many = toldCount;
            }
            if (fault.kind == 0 && isBody(row, from, many != NONE)) {
                makeItems(m, row, from, many != NONE);
                enter(m, row.at[2], Row.lengthOf(row.look[2]));
                stands[m] = true;
                parameters[m] = many;
                bodySize[m] = row.size - from;
                fileOf[m] = Row.fileOf(ending);
                lineOf[m] = Row.lineOf(ending);
            }
        }

        /** The number that the NAME has or is to have; NONE: a FAULT. */
        private int newNumber(Row row, int ending) {
            if (row.size < 3) {
                fault.meet(FAULT_DIRECTIVE, ending);
                return NONE;
            }
            int length = Row.lengthOf(row.look[2]);
            int at = row.at[2];
            if (Row.kindOf(row.look[2]) != NAME || Text.says(text.bytes, at, at + length, "defined")) {
                fault.meet(FAULT_DIRECTIVE, row.look[2]);
                return NONE;
            }
            int m = numberOf(at, length);
            if (m != NONE && stands[m]) {
                fault.meet(FAULT_DEFINED, row.look[2]);
                return NONE;
            }
            if (m == NONE && size >= MACROS) {
                fault.meet(FAULT_MANY, row.look[2]);
                return NONE;
            }
            return m == NONE ? size : m;
        }

        private boolean isSign(Row row, int i, int sign) {
            return i >= 0 && i < row.size && text.signOf(row.at[i], row.look[i]) == sign;
        }

        /** Where the BODY begins, behind the PARAMETERS. */
        private int tellParameters(Row row, int ending) {
            if (isSign(row, 4, ')')) {
                return 5;
            }
            for (int i = 4; i < row.size; i += 2) {
                if (Row.kindOf(row.look[i]) != NAME || parameterAt(row, i) != NONE) {
                    fault.meet(FAULT_DIRECTIVE, row.look[i]);
                    return row.size;
                }
                if (toldCount >= PARAMETERS) {
                    fault.meet(FAULT_MANY, row.look[i]);
                    return row.size;
                }
                told[toldCount] = i;
                toldCount++;
                if (isSign(row, i + 1, ')')) {
                    return i + 2;
                }
                if (i + 1 < row.size && !isSign(row, i + 1, ',')) {
                    fault.meet(FAULT_DIRECTIVE, row.look[i + 1]);
                    return row.size;
                }
            }
            fault.meet(FAULT_DIRECTIVE, ending);
            return row.size;
        }

        /** Which PARAMETER a TOKEN is; NONE: it is none. */
        private int parameterAt(Row row, int i) {
            if (i < 0 || i >= row.size) {
                return NONE;
            }
            int length = Row.lengthOf(row.look[i]);
            for (int p = 0; p < toldCount && p < PARAMETERS; p++) {
                int t = told[p];
                if (Row.lengthOf(row.look[t]) == length
                        && Text.isAlike(text.bytes, row.at[i], row.at[t], length)) {
                    return p;
                }
            }
            return NONE;
        }

        /** Meets the FAULT of the first TOKEN of the BODY that has one. */
        private boolean isBody(Row row, int from, boolean bracketed) {
            for (int i = from; i < row.size; i++) {
                boolean isEdge = i == from || i == row.size - 1 || isSign(row, i - 1, PASTE);
                if (isSign(row, i, PASTE) && isEdge) {
                    fault.meet(FAULT_DIRECTIVE, row.look[i]);
                    return false;
                }
                if (bracketed && isSign(row, i, '#') && parameterAt(row, i + 1) == NONE) {
                    fault.meet(FAULT_DIRECTIVE, row.look[i]);
                    return false;
                }
                if (i - from >= BODY_TOKENS) {
                    fault.meet(FAULT_MANY, row.look[i]);
                    return false;
                }
            }
            return true;
        }

        private void makeItems(int m, Row row, int from, boolean bracketed) {
            items[m] = 0;
            int glued = 0;
            for (int i = from; i < row.size; i++) {
                if (isSign(row, i, PASTE)) {
                    glued = GLUED;
                    continue;
                }
                int look = row.look[i];
                int at = row.at[i];
                int what = PLAIN;
                int parameter = parameterAt(row, i);
                if (bracketed && isSign(row, i, '#')) {
                    what = TO_STRING;
                    i++;
                    parameter = parameterAt(row, i);
                } else if (parameter != NONE) {
                    what = glued != 0 || isSign(row, i + 1, PASTE) ? ARGUMENT | RAW : ARGUMENT;
                }
                addItem(m, what | glued, parameter, at, look);
                glued = 0;
            }
        }
    }

    /** A row that is being EXPANDED, and the replacing that is under way in it. */
    private static final class Frame {
        /** More than may come, so that too many can be told. */
        static final int ROOM = REPLACED_TOKENS + 2;

        int next = NONE;
        int behind = NONE;
        /** Whether its TOKENS come as they are. */
        boolean isRaw = false;
        /** The MACRO by whose items a NAME is being replaced; NONE: none is. */
        int macro = NONE;
        int item = 0;
        int hidden = 0;
        int nameLook = 0;
        int after = NONE;
        int given = 0;
        final int[] argumentFrom = new int[PARAMETERS];
        final int[] argumentTo = new int[PARAMETERS];
        /** What came so far in place of the NAME. */
        final Row made = new Row(ROOM);
        /** Whether there is a TOKEN ahead to which one behind a ## could be pasted. */
        boolean isAhead = false;
        /** Whether the next TOKEN is to be pasted to it. */
        boolean isPasting = false;
        /** Whether the next TOKEN is the first one in place of a PARAMETER. */
        boolean isFirst = false;
        int itemLook = 0;
        boolean isBad = false;
        int pastes = 0;

        void enterRow(int from, int to) {
            next = from;
            behind = to;
            isRaw = false;
            macro = NONE;
        }

        void beginReplacing(int m, int hides, int name, int goesOn) {
            macro = m;
            item = 0;
            hidden = hides;
            nameLook = name;
            after = goesOn;
            made.size = 0;
            isAhead = false;
            isBad = false;
            pastes = 0;
        }

        void beginItem(int what, int how) {
            item++;
            isPasting = (what & Macros.GLUED) != 0 && isAhead;
            isAhead = isPasting;
            isFirst = (what & Macros.ARGUMENT) != 0;
            itemLook = how;
        }

        /**
         * Adds a TOKEN. If there are too many, it takes the place of the last one: no paste makes
         * them fewer again, but one may need the last.
         */
        void put(int where, int how, int hides) {
            made.size = Math.min(made.size, ROOM - 1);
            made.add(where, isFirst ? Row.blankAs(how, itemLook) : how, hides);
            isFirst = false;
            isAhead = true;
        }
    }

    /**
     * EXPANDS a row. TOKENS that wait are nodes, chained and never changed: an ARGUMENT is a
     * stretch of the chain, and what replaces a NAME is chained ahead of what follows it. So an
     * ARGUMENT can be EXPANDED by itself, in a Frame of its own, without a copy.
     */
    private static final class Expander {
        /** Far above what 100 EXPANSIONS can need, each with 20 ARGUMENTS of a row's TOKENS. */
        private static final int STEPS = 10000000;

        private final Text text;
        private final Macros macros;
        private final Fault fault;
        private final Row nodes = new Row(ROW_TOKENS);
        private final int[] chain = new int[ROW_TOKENS];
        private final Frame[] frames = new Frame[EXPANSIONS + 1];
        private int depth = 0;
        private int[] tally;
        private boolean counting = false;

        Expander(Text text, Macros macros, Fault fault, int[] tally) {
            this.text = text;
            this.macros = macros;
            this.fault = fault;
            this.tally = tally;
            for (int d = 0; d < frames.length; d++) {
                frames[d] = new Frame();
            }
        }

        /** Counts into a tally from now on; a RUN counts for its MACROS, too. */
        void tallyInto(int[] into, boolean forRun) {
            tally = into;
            counting = forRun;
            if (!forRun) {
                Arrays.fill(into, 0);
            }
        }

        void clear() {
            nodes.size = 0;
        }

        /** Adds a TOKEN to the row that is to be EXPANDED. */
        void load(int at, int look) {
            int node = nodes.size;
            if (nodes.add(at, look, 0)) {
                chain[node] = NONE;
                if (node > 0) {
                    chain[node - 1] = node;
                }
            }
        }

        /** EXPANDS what was loaded; the TOKENS come out behind those that the row has. */
        void go(Row into) {
            depth = 0;
            frames[0].enterRow(nodes.size > 0 ? 0 : NONE, NONE);
            for (int step = 0; step < STEPS && depth >= 0 && fault.kind == 0; step++) {
                Frame frame = frames[depth];
                int node = frame.next;
                if (frame.macro != NONE) {
                    doItem(frame);
                } else if (node == frame.behind || node < 0 || node >= nodes.size) {
                    depth--;
                } else if (frame.isRaw || !isReplaced(frame, node)) {
                    frame.next = chain[node];
                    if (depth == 0) {
                        into.add(nodes.at[node], nodes.look[node], nodes.hide[node]);
                    } else if (frames[depth - 1].isPasting) {
                        paste(frames[depth - 1], nodes.at[node], nodes.look[node], nodes.hide[node]);
                    } else {
                        frames[depth - 1].put(nodes.at[node], nodes.look[node], nodes.hide[node]);
                    }
                }
            }
        }

        private boolean isReplaced(Frame frame, int node) {
            int look = nodes.look[node];
            if (Row.kindOf(look) != NAME) {
                return false;
            }
            int m = macros.standing(nodes.at[node], Row.lengthOf(look));
            if (m == NONE || (nodes.hide[node] >> m & 1) != 0) {
                return false;
            }
            return replaces(frame, node, m);
        }

        /** Begins to replace a NAME, or meets its FAULT; false: no ( follows. */
        private boolean replaces(Frame frame, int node, int m) {
            int hides = nodes.hide[node];
            int after = chain[node];
            if (macros.parameters[m] != NONE) {
                int open = after;
                if (open == frame.behind || open < 0 || open >= nodes.size
                        || text.signOf(nodes.at[open], nodes.look[open]) != '(') {
                    return false;
                }
                int close = findArguments(frame, open);
                if (close == NONE) {
                    fault.meet(FAULT_BRACKET, nodes.look[node]);
                    return true;
                }
                boolean isNothing = chain[open] == close;
                int given = macros.parameters[m] == 0 && isNothing ? 0 : frame.given;
                if (given != macros.parameters[m]) {
                    fault.meet(FAULT_ARGUMENTS, nodes.look[node]);
                    return true;
                }
                hides &= nodes.hide[close];
                after = chain[close];
            }
            if (tally[REPLACINGS] >= EXPANSIONS) {
                fault.meet(FAULT_MANY, nodes.look[node]);
                return true;
            }
            tally[REPLACINGS]++;
            macros.used[m] += counting ? 1 : 0;
            frame.beginReplacing(m, hides | 1 << m, nodes.look[node], after);
            return true;
        }

        /** Tells the ARGUMENTS apart: the bracket that closes; NONE: none does. */
        private int findArguments(Frame frame, int open) {
            int within = 0;
            int from = chain[open];
            frame.given = 0;
            int node = from;
            for (int n = 0; n < ROW_TOKENS && node != frame.behind && node >= 0; n++) {
                int sign = text.signOf(nodes.at[node], nodes.look[node]);
                if (within == 0 && (sign == ',' || sign == ')')) {
                    if (frame.given < PARAMETERS) {
                        frame.argumentFrom[frame.given] = from;
                        frame.argumentTo[frame.given] = node;
                    }
                    frame.given++;
                    from = chain[node];
                    if (sign == ')') {
                        return node;
                    }
                }
                within += sign == '(' ? 1 : sign == ')' ? -1 : 0;
                node = chain[node];
            }
            return NONE;
        }

        /** Does the next item of the BODY, or puts what came in place of the NAME. */
        private void doItem(Frame frame) {
            int m = frame.macro;
            if (m < 0 || m >= MACROS || frame.item >= macros.items[m]) {
                putInPlace(frame);
                return;
            }
            int k = m * BODY_TOKENS + frame.item;
            int what = macros.itemWhat[k];
            int look = macros.itemLook[k];
            frame.beginItem(what, look);
            if ((what & Macros.ARGUMENT) != 0) {
                openArgument(frame, macros.itemParameter[k], (what & Macros.RAW) != 0);
                return;
            }
            int at = macros.itemAt[k];
            if ((what & Macros.TO_STRING) != 0) {
                at = text.top;
                int length = makeString(frame, macros.itemParameter[k]);
                if (length == NONE) {
                    fault.meet(FAULT_PASTE, frame.nameLook);
                    return;
                }
                look = Row.blankAs(Row.shape(STRING, length), look);
            }
            look = Row.from(look, frame.nameLook);
            if (frame.isPasting) {
                paste(frame, at, look, 0);
            } else {
                frame.put(at, look, 0);
            }
        }

        /** The TOKENS of an ARGUMENT come in a Frame of their own. */
        private void openArgument(Frame frame, int parameter, boolean isRaw) {
            if (parameter >= 0 && parameter < PARAMETERS && depth + 1 < frames.length) {
                depth++;
                frames[depth].enterRow(frame.argumentFrom[parameter], frame.argumentTo[parameter]);
                frames[depth].isRaw = isRaw;
            }
        }

        /** The last TOKEN ahead and this one are one, if that is a TOKEN. */
        private void paste(Frame frame, int at, int look, int hides) {
            Row made = frame.made;
            int slot = made.size - 1;
            frame.isPasting = false;
            frame.isFirst = false;
            if (slot < 0 || frame.isBad) {
                return;
            }
            int ahead = Row.lengthOf(made.look[slot]);
            int length = ahead + Row.lengthOf(look);
            int from = text.top;
            if (length > TOKEN_BYTES || from + length > text.bytes.length) {
                frame.isBad = true;
                return;
            }
            System.arraycopy(text.bytes, made.at[slot], text.bytes, from, ahead);
            System.arraycopy(text.bytes, at, text.bytes, from + ahead, length - ahead);
            if (text.endOf(from, from + length) != from + length) {
                frame.isBad = true;
                return;
            }
            text.top += length;
            made.at[slot] = from;
            made.look[slot] = made.look[slot] & ~Row.SHAPE_BITS | Row.shape(text.kindAt(from), length);
            made.hide[slot] &= hides;
            frame.pastes++;
        }

        /** How many bytes the STRING has that is made; NONE: it would have too many. */
        private int makeString(Frame frame, int parameter) {
            int from = text.top;
            if (parameter < 0 || parameter >= PARAMETERS || from + TOKEN_BYTES > text.bytes.length) {
                return NONE;
            }
            int length = 1;
            text.bytes[from] = '"';
            int first = frame.argumentFrom[parameter];
            int to = frame.argumentTo[parameter];
            int node = first;
            for (int n = 0; n < ROW_TOKENS && node != to && node >= 0; n++) {
                int look = nodes.look[node];
                if (node != first && Row.blankOf(look) == 1) {
                    text.bytes[from + length] = BLANK;
                    length++;
                }
                int bytes = Row.lengthOf(look);
                if (length + bytes + 1 > TOKEN_BYTES) {
                    return NONE;
                }
                for (int i = 0; i < bytes; i++) {
                    byte b = text.bytes[nodes.at[node] + i];
                    text.bytes[from + length + i] = b == '"' ? (byte) '\'' : b;
                }
                length += bytes;
                node = chain[node];
            }
            text.bytes[from + length] = '"';
            text.top += length + 1;
            tally[STRINGS]++;
            return length + 1;
        }

        private void putInPlace(Frame frame) {
            tally[PASTED] += frame.pastes;
            if (frame.isBad) {
                fault.meet(FAULT_PASTE, frame.nameLook);
                return;
            }
            Row made = frame.made;
            if (made.size > REPLACED_TOKENS || nodes.size + made.size > ROW_TOKENS) {
                fault.meet(FAULT_MANY, frame.nameLook);
                return;
            }
            int next = frame.after;
            for (int i = made.size - 1; i >= 0; i--) {
                int look = i == 0 ? Row.blankAs(made.look[i], frame.nameLook) : made.look[i];
                chain[nodes.size] = next;
                next = nodes.size;
                nodes.add(made.at[i], look, made.hide[i] | frame.hidden);
            }
            frame.next = next;
            frame.macro = NONE;
        }
    }

    /** Works out an E whose NAMES were replaced, reading it once from left to right. */
    private static final class Sums {
        private static final int STRONGEST = 10;
        private static final int WORTH = 0;
        private static final int WRONG = -1;
        private static final int OR = '|' | '|' << 8;
        private static final int AND = '&' | '&' << 8;
        private static final int EQUAL = '=' | '=' << 8;
        private static final int UNLIKE = '!' | '=' << 8;
        private static final int AT_MOST = '<' | '=' << 8;
        private static final int AT_LEAST = '>' | '=' << 8;
        private static final int LEFT = '<' | '<' << 8;
        private static final int RIGHT = '>' | '>' << 8;

        private final Text text;
        private final Fault fault;
        private Row row;
        /** What each TOKEN is: a SIGN as a number, one that has a worth, or one that can't come. */
        private final int[] codes = new int[ROW_TOKENS];
        private final long[] worths = new long[ROW_TOKENS];
        private int next = 0;
        /** The first TOKEN that can't come. */
        private int wrong = NONE;
        /** The SIGN of the first division by 0 that is worked out. */
        private int zero = NONE;

        Sums(Text text, Fault fault) {
            this.text = text;
            this.fault = fault;
        }

        /** The worth of the whole row; ending is the look of the LINE's end. */
        long whole(Row sum, int ending) {
            row = sum;
            next = 0;
            wrong = NONE;
            zero = NONE;
            for (int i = 0; i < row.size && i < ROW_TOKENS; i++) {
                readToken(i, row.at[i], row.look[i]);
            }
            long worth = choice(0, true);
            if (wrong == NONE && next < row.size) {
                wrong = next;
            }
            if (wrong != NONE) {
                fault.meet(FAULT_SUM, wrong < row.size ? row.look[wrong] : ending);
            } else if (zero != NONE) {
                fault.meet(FAULT_DIVISION, row.look[zero]);
            }
            return worth;
        }

        private void readToken(int i, int at, int look) {
            int kind = Row.kindOf(look);
            int to = at + Row.lengthOf(look);
            codes[i] = kind == NAME ? WORTH : WRONG;
            worths[i] = 0;
            if (kind == SIGN) {
                codes[i] = text.signOf(at, look);
            } else if (kind == NUMBER && to - at > 1 && text.byteAt(at) == '0' && text.byteAt(at + 1) == 'x') {
                readHex(i, at + 2, to);
            } else if (kind == NUMBER) {
                readDecimal(i, at, to);
            }
        }

        private void readHex(int i, int from, int to) {
            long worth = 0;
            boolean isRight = to > from && to - from <= 16;
            for (int k = from; k < to; k++) {
                int c = text.byteAt(k);
                int digit = c >= '0' && c <= '9' ? c - '0' : c >= 'a' && c <= 'f' ? c - 'a' + 10
                        : c >= 'A' && c <= 'F' ? c - 'A' + 10 : NONE;
                isRight = isRight && digit != NONE;
                worth = worth << 4 | digit & 15;
            }
            codes[i] = isRight ? WORTH : WRONG;
            worths[i] = worth;
        }

        private void readDecimal(int i, int from, int to) {
            long worth = 0;
            boolean isRight = true;
            for (int k = from; k < to && isRight; k++) {
                int digit = text.byteAt(k) - '0';
                isRight = digit >= 0 && digit <= 9 && worth <= (Long.MAX_VALUE - digit) / 10;
                worth = worth * 10 + digit;
            }
            codes[i] = isRight ? WORTH : WRONG;
            worths[i] = worth;
        }

        /** The TOKEN that comes next, or the end, can't come. */
        private void refuse() {
            wrong = wrong == NONE ? next : wrong;
        }

        private int sign() {
            return next < row.size && next < ROW_TOKENS ? codes[next] : WRONG;
        }

        private long choice(int within, boolean needed) {
            long condition = binary(1, within, needed);
            if (wrong != NONE || sign() != '?') {
                return condition;
            }
            next++;
            long second = part(within, needed && condition != 0);
            if (sign() != ':') {
                refuse();
            }
            next++;
            long third = part(within, needed && condition == 0);
            return condition != 0 ? second : third;
        }

        private long part(int within, boolean needed) {
            if (within >= SUMS_WITHIN) {
                refuse();
            }
            return wrong != NONE ? 0 : choice(within + 1, needed);
        }

        private long binary(int strength, int within, boolean needed) {
            if (strength > STRONGEST) {
                return single(within, needed);
            }
            long worth = binary(strength + 1, within, needed);
            for (int n = 0; n < row.size && wrong == NONE && strengthOf(sign()) == strength; n++) {
                int sign = sign();
                int at = next;
                next++;
                boolean isDecided = sign == OR && worth != 0 || sign == AND && worth == 0;
                long other = binary(strength + 1, within, needed && !isDecided);
                if ((sign == '/' || sign == '%') && other == 0) {
                    zero = needed && zero == NONE ? at : zero;
                    worth = 0;
                } else {
                    worth = strength < 6 ? ofBits(sign, worth, other)
                            : strength < 8 ? compared(sign, worth, other) : counted(sign, worth, other);
                }
            }
            return worth;
        }

        private static int strengthOf(int sign) {
            switch (sign) {
                case OR:
                    return 1;
                case AND:
                    return 2;
                case '|':
                    return 3;
                case '^':
                    return 4;
                case '&':
                    return 5;
                case EQUAL:
                case UNLIKE:
                    return 6;
                case '<':
                case '>':
                case AT_MOST:
                case AT_LEAST:
                    return 7;
                case LEFT:
                case RIGHT:
                    return 8;
                case '+':
                case '-':
                    return 9;
                case '*':
                case '/':
                case '%':
                    return STRONGEST;
                default:
                    return 0;
            }
        }

        private static long ofBits(int sign, long a, long b) {
            switch (sign) {
                case OR:
                    return a != 0 || b != 0 ? 1 : 0;
                case AND:
                    return a != 0 && b != 0 ? 1 : 0;
                case '|':
                    return a | b;
                case '^':
                    return a ^ b;
                default:
                    return a & b;
            }
        }

        private static long compared(int sign, long a, long b) {
            boolean holds;
            switch (sign) {
                case EQUAL:
                    holds = a == b;
                    break;
                case UNLIKE:
                    holds = a != b;
                    break;
                case '<':
                    holds = a < b;
                    break;
                case '>':
                    holds = a > b;
                    break;
                case AT_MOST:
                    holds = a <= b;
                    break;
                default:
                    holds = a >= b;
                    break;
            }
            return holds ? 1 : 0;
        }

        private static long counted(int sign, long a, long b) {
            switch (sign) {
                case LEFT:
                    return a << (b & 63);
                case RIGHT:
                    return a >> (b & 63);
                case '+':
                    return a + b;
                case '-':
                    return a - b;
                case '*':
                    return a * b;
                case '/':
                    return b == 0 ? 0 : a / b;
                default:
                    return b == 0 ? 0 : a % b;
            }
        }

        private long single(int within, boolean needed) {
            int sign = sign();
            if (sign == WORTH) {
                next++;
                return worths[next - 1];
            }
            boolean isAhead = sign == '!' || sign == '~' || sign == '-' || sign == '+';
            if (!isAhead && sign != '(' || within >= SUMS_WITHIN) {
                refuse();
                return 0;
            }
            next++;
            if (sign == '(') {
                long worth = choice(within + 1, needed);
                if (sign() != ')') {
                    refuse();
                }
                next++;
                return worth;
            }
            long worth = single(within + 1, needed);
            if (sign == '!') {
                return worth == 0 ? 1 : 0;
            }
            return sign == '~' ? ~worth : sign == '-' ? -worth : worth;
        }
    }

    /** A RUN, LINE by LINE, and what it leaves. */
    private static final class Runner {
        private static final int LEVELS = INCLUDES_WITHIN + 1;

        /** What is still to be done for a LINE. */
        private static final int NOTHING = 0;
        private static final int PASS_ON = 1;
        private static final int WORK_OUT = 2;
        private static final int DIRECT = 3;
        private static final int ENTERED = 4;

        /** Of a group: its LINES are run now. */
        private static final int LIVE = 1;
        /** One of its conditions was not 0. */
        private static final int TAKEN = 2;
        private static final int HAD_ELSE = 4;
        /** It is not within skipped LINES. */
        private static final int OUTER = 8;

        final Text text;
        final Fault fault = new Fault();
        final Macros macros;
        final Row out = new Row(ROW_TOKENS);
        final int[] tally = new int[TALLIES];
        /** How often each LINE was passed on or done. */
        final int[] done = new int[ALL_LINES];
        private final int[] spare = new int[TALLIES];
        private final Expander expander;
        private final Sums sums;
        private final Row cut = new Row(TAPE_BYTES);
        private final Row wide = new Row(ROW_TOKENS);
        private Page[] pages;
        private final int[] fileAt = new int[LEVELS];
        private final int[] lineAt = new int[LEVELS];
        private final int[] groupsAt = new int[LEVELS];
        private int level = NONE;
        private final int[] groupLook = new int[LEVELS * FILE_LINES];
        private final int[] groupState = new int[LEVELS * FILE_LINES];
        private int groups = 0;
        /** The look of the end of the LINE that is looked at. */
        private int ending = 0;

        /** Tapes may be worked out beside a RUN: each needs its room for made TOKENS. */
        Runner(int rooms) {
            text = new Text(rooms * MADE_BYTES);
            macros = new Macros(text, fault);
            expander = new Expander(text, macros, fault, spare);
            sums = new Sums(text, fault);
        }

        void start(Source source, int k, int setting) {
            fault.clear();
            out.size = 0;
            text.top = MADE_AT;
            Arrays.fill(tally, 0);
            Arrays.fill(done, 0);
            pages = source.pages;
            for (int f = 0; f < FILES; f++) {
                System.arraycopy(pages[f].text, 0, text.bytes, f * PAGE_BYTES, PAGE_BYTES);
            }
            macros.size = 0;
            for (int s = 0; s < source.switchCount && s < SWITCHES; s++) {
                int at = SWITCH_AT + s * TOKEN_BYTES;
                System.arraycopy(source.switchName[s], 0, text.bytes, at, TOKEN_BYTES);
                macros.addSwitch(at, source.switchLength[s], (setting >> s & 1) != 0);
            }
            expander.tallyInto(tally, true);
            groups = 0;
            level = 0;
            fileAt[0] = k;
            lineAt[0] = 0;
            groupsAt[0] = 0;
        }

        /** RUNS the next LINE: whether the RUN goes on behind it. */
        boolean doLine() {
            if (pages == null || level < 0 || level >= LEVELS || fault.kind != 0) {
                return false;
            }
            int f = fileAt[level];
            int l = lineAt[level];
            if (l >= pages[f].size) {
                leaveFile();
                return level >= 0 && fault.kind == 0;
            }
            int bytes = pages[f].start[l + 1] - 1 - pages[f].start[l];
            ending = Row.origin(f, l, bytes);
            int word = pages[f].word[l];
            if (isAstray(word)) {
                fault.meet(FAULT_GROUP, hashLook(f, l));
                return false;
            }
            if (isSkipping() && !(word >= ELIF && topHas(OUTER))) {
                skipLine(word, hashLook(f, l));
                lineAt[level]++;
                return true;
            }
            int act = prepare(word, f * PAGE_BYTES + pages[f].start[l], bytes);
            if (act == DIRECT && fault.kind == 0) {
                act = direct(hashLook(f, l));
            }
            if ((act == PASS_ON || act == WORK_OUT) && fault.kind == 0) {
                wide.size = 0;
                expander.go(wide);
            }
            if (act == PASS_ON && fault.kind == 0) {
                handOut();
            }
            if (act == WORK_OUT && fault.kind == 0) {
                decide(word, sums.whole(wide, ending) != 0, hashLook(f, l));
            }
            if (act != ENTERED && fault.kind == 0) {
                finishLine();
            }
            return fault.kind == 0;
        }

        private int hashLook(int f, int l) {
            return Row.origin(f, l, pages[f].firstOf(l) - pages[f].start[l]);
        }

        private void finishLine() {
            int k = fileAt[level] * FILE_LINES + lineAt[level];
            if (k >= 0 && k < ALL_LINES) {
                done[k]++;
            }
            lineAt[level]++;
        }

        private void leaveFile() {
            if (groups > groupsAt[level]) {
                fault.meet(FAULT_GROUP, groupLook[groups - 1]);
                return;
            }
            level--;
            if (level >= 0) {
                finishLine();
            }
        }

        private boolean topHas(int state) {
            return groups > groupsAt[level] && (groupState[groups - 1] & state) != 0;
        }

        private boolean isSkipping() {
            return groups > groupsAt[level] && !topHas(LIVE);
        }

        private boolean isAstray(int word) {
            if (word < ELIF) {
                return false;
            }
            return groups <= groupsAt[level] || word != ENDIF && topHas(HAD_ELSE);
        }

        private void openGroup(int state, int look) {
            if (groups < groupState.length) {
                groupState[groups] = state;
                groupLook[groups] = look;
                groups++;
            }
        }

        private void skipLine(int word, int look) {
            tally[SKIPPED]++;
            if (word == OPENS) {
                openGroup(0, look);
            } else if (word == ELSE && groups > 0) {
                groupState[groups - 1] |= HAD_ELSE;
            } else if (word == ENDIF && groups > 0) {
                groups--;
            }
        }

        /** Tells the TOKENS of a LINE apart, and what is to be done with them. */
        private int prepare(int word, int from, int bytes) {
            if (word == ELIF && topHas(TAKEN)) {
                groupState[groups - 1] &= ~LIVE;
                return NOTHING;
            }
            if (!cutLine(from, bytes)) {
                return NOTHING;
            }
            if (cut.size > 0 && isSign(0, '#')) {
                return cut.size == 1 ? NOTHING : DIRECT;
            }
            loadFrom(0);
            return PASS_ON;
        }

        private boolean cutLine(int from, int bytes) {
            cut.size = 0;
            for (int i = 0; i < bytes; i++) {
                if (text.byteAt(from + i) == BLANK) {
                    continue;
                }
                int look = Row.origin(Row.fileOf(ending), Row.lineOf(ending), i);
                int end = text.endOf(from + i, from + bytes);
                int length = end - from - i;
                if (end == NONE || length > TOKEN_BYTES) {
                    fault.meet(FAULT_TOKEN, look);
                    return false;
                }
                look |= Row.shape(text.kindAt(from + i), length);
                if (i > 0 && text.byteAt(from + i - 1) == BLANK) {
                    look |= Row.BLANK_BIT;
                }
                cut.add(from + i, look, 0);
                i += Math.max(length, 1) - 1;
            }
            return true;
        }

        private boolean isSign(int i, int sign) {
            return i < cut.size && text.signOf(cut.at[i], cut.look[i]) == sign;
        }

        private boolean isName(int i) {
            return i < cut.size && Row.kindOf(cut.look[i]) == NAME;
        }

        private boolean says(int i, String word) {
            if (!isName(i)) {
                return false;
            }
            return Text.says(text.bytes, cut.at[i], cut.at[i] + Row.lengthOf(cut.look[i]), word);
        }

        private void loadFrom(int first) {
            expander.clear();
            for (int i = first; i < cut.size; i++) {
                expander.load(cut.at[i], cut.look[i]);
            }
        }

        /** The TOKEN, or the LINE's end, has a FAULT. */
        private void refuse(int kind, int i) {
            fault.meet(kind, i < cut.size ? cut.look[i] : ending);
        }

        /** Does a DIRECTIVE whose TOKENS are told apart: what is still to be done. */
        private int direct(int look) {
            if (says(1, "define")) {
                macros.define(cut, ending);
            } else if (says(1, "undef")) {
                undefine();
            } else if (says(1, "include")) {
                return include();
            } else if (says(1, "if") || says(1, "elif")) {
                loadSum(2);
                return WORK_OUT;
            } else if (says(1, "ifdef")) {
                openByName(true, look);
            } else if (says(1, "ifndef")) {
                openByName(false, look);
            } else if (says(1, "else")) {
                turn();
            } else if (says(1, "endif")) {
                close();
            } else {
                refuse(FAULT_DIRECTIVE, 1);
            }
            return NOTHING;
        }

        /** Whether the DIRECTIVE has a NAME and nothing behind it. */
        private boolean isNameAlone() {
            if (!isName(2)) {
                refuse(FAULT_DIRECTIVE, 2);
            } else if (cut.size > 3) {
                refuse(FAULT_DIRECTIVE, 3);
            }
            return fault.kind == 0;
        }

        private void undefine() {
            if (isNameAlone()) {
                int m = macros.standing(cut.at[2], Row.lengthOf(cut.look[2]));
                if (m != NONE) {
                    macros.stands[m] = false;
                }
            }
        }

        private void openByName(boolean wanted, int look) {
            if (isNameAlone()) {
                boolean isMacro = macros.standing(cut.at[2], Row.lengthOf(cut.look[2])) != NONE;
                decide(OPENS, isMacro == wanted, look);
            }
        }

        private void decide(int word, boolean holds, int look) {
            if (fault.kind != 0) {
                return;
            }
            tally[CONDITIONS]++;
            int state = OUTER | (holds ? LIVE | TAKEN : 0);
            if (word == OPENS) {
                openGroup(state, look);
            } else if (groups > 0) {
                groupState[groups - 1] = state;
            }
        }

        private void turn() {
            if (cut.size > 2) {
                refuse(FAULT_DIRECTIVE, 2);
            } else if (groups > 0) {
                groupState[groups - 1] = OUTER | HAD_ELSE | TAKEN | (topHas(TAKEN) ? 0 : LIVE);
            }
        }

        private void close() {
            if (cut.size > 2) {
                refuse(FAULT_DIRECTIVE, 2);
            } else if (groups > 0) {
                groups--;
            }
        }

        private int include() {
            if (cut.size < 3 || (cut.look[2] & Row.SHAPE_BITS) != Row.ONE_DIGIT) {
                refuse(FAULT_DIRECTIVE, 2);
                return NOTHING;
            }
            int k = text.byteAt(cut.at[2]) - '0';
            boolean isTold = k >= 0 && k < FILES && pages[k].told;
            boolean isSpared = isTold && pages[k].guardLength > 0
                    && macros.standing(k * PAGE_BYTES + pages[k].guardFrom, pages[k].guardLength) != NONE;
            if (!isTold || !isSpared && (level >= INCLUDES_WITHIN || tally[BEGUN] >= INCLUDES)) {
                refuse(FAULT_INCLUDE, 2);
            } else if (cut.size > 3) {
                refuse(FAULT_DIRECTIVE, 3);
            } else if (isSpared) {
                tally[SPARED]++;
            } else {
                enterFile(k);
                return ENTERED;
            }
            return NOTHING;
        }

        private void enterFile(int k) {
            if (level + 1 >= LEVELS) {
                return;
            }
            level++;
            fileAt[level] = k;
            lineAt[level] = 0;
            groupsAt[level] = groups;
            tally[BEGUN]++;
            tally[DEEPEST] = Math.max(tally[DEEPEST], level);
        }

        /** Loads an E, each 'defined' told as 1 or 0. */
        private void loadSum(int first) {
            expander.clear();
            for (int i = first; i < cut.size && fault.kind == 0; i++) {
                if (!says(i, "defined")) {
                    expander.load(cut.at[i], cut.look[i]);
                    continue;
                }
                boolean bracketed = isSign(i + 1, '(');
                int name = bracketed ? i + 2 : i + 1;
                if (!isName(name)) {
                    refuse(FAULT_SUM, name);
                } else if (bracketed && !isSign(name + 1, ')')) {
                    refuse(FAULT_SUM, name + 1);
                } else {
                    int digit = macros.standing(cut.at[name], Row.lengthOf(cut.look[name])) != NONE ? 1 : 0;
                    int shape = Row.blankAs(Row.shape(NUMBER, 1), cut.look[i]);
                    expander.load(DIGITS_AT + digit, Row.from(shape, cut.look[i]));
                    i = bracketed ? name + 1 : name;
                }
            }
        }

        /** The TOKENS of a TEXT LINE that is EXPANDED come out. */
        private void handOut() {
            for (int i = 0; i < wide.size; i++) {
                if (out.size >= OUT_TOKENS) {
                    fault.meet(FAULT_MANY, wide.look[i]);
                    return;
                }
                out.add(wide.at[i], wide.look[i], wide.hide[i]);
            }
            tally[TEXT_LINES]++;
        }

        private boolean readTape(byte[] tape, int bytes, int to) {
            fault.clear();
            ending = Row.origin(NONE, NONE, bytes);
            for (int i = 0; i < bytes; i++) {
                if (tape[i] < BLANK || tape[i] > LAST_BYTE) {
                    fault.meet(FAULT_TOKEN, Row.origin(NONE, NONE, i));
                    return false;
                }
                text.bytes[to + i] = tape[i];
            }
            expander.tallyInto(spare, false);
            return cutLine(to, bytes);
        }

        /** EXPANDS the tape by the MACROS that are left: whether there was no FAULT. */
        boolean spread(byte[] tape, int bytes) {
            out.size = 0;
            text.top = MADE_AT;
            if (readTape(tape, bytes, LINE_AT)) {
                loadFrom(0);
                expander.go(out);
            }
            if (fault.kind != 0) {
                out.size = 0;
            }
            return fault.kind == 0;
        }

        /** The worth of the E that the tape tells; what came out before stays as it is. */
        long worth(byte[] tape, int bytes) {
            int top = text.top;
            long worth = 0;
            if (readTape(tape, bytes, SUM_AT)) {
                loadSum(0);
                wide.size = 0;
                expander.go(wide);
            }
            if (fault.kind == 0) {
                worth = sums.whole(wide, ending);
            }
            text.top = top;
            return worth;
        }
    }

    /** RUNS of a FILE by all SETTINGS, kept until FILES or SWITCHES are others. */
    private static final class Study {
        /** Each TOKEN with its length, then the FAULT. */
        private static final int ROOM = OUT_TOKENS * (TOKEN_BYTES + 1) + 5;

        private final Runner runner = new Runner(1);
        private final byte[] outcome = new byte[SETTINGS * ROOM];
        private final int[] outcomeSize = new int[SETTINGS];
        /** The least SETTING with an outcome like that of each. */
        final int[] least = new int[SETTINGS];
        /** By which SETTINGS each LINE is passed on. */
        final int[] present = new int[ALL_LINES];
        int looked = NONE;

        void look(Source source, int k) {
            if (looked == k) {
                return;
            }
            looked = k;
            Arrays.fill(present, 0);
            for (int s = 0; s < 1 << source.switchCount && s < SETTINGS; s++) {
                runner.start(source, k, s);
                boolean more = true;
                for (int n = 0; n < RUN_STEPS && more; n++) {
                    more = runner.doLine();
                }
                for (int i = 0; i < ALL_LINES; i++) {
                    present[i] |= runner.done[i] > 0 ? 1 << s : 0;
                }
                keep(s);
                least[s] = leastLike(s);
            }
        }

        private void keep(int s) {
            int at = s * ROOM;
            Row out = runner.out;
            for (int k = 0; k < out.size && k < OUT_TOKENS; k++) {
                int length = Row.lengthOf(out.look[k]);
                outcome[at] = (byte) length;
                System.arraycopy(runner.text.bytes, out.at[k], outcome, at + 1, length);
                at += 1 + length;
            }
            int look = runner.fault.look;
            outcome[at] = (byte) runner.fault.kind;
            outcome[at + 1] = (byte) Row.fileOf(look);
            outcome[at + 2] = (byte) Row.lineOf(look);
            outcome[at + 3] = (byte) Row.placeOf(look);
            outcome[at + 4] = (byte) (Row.placeOf(look) >> 8);
            outcomeSize[s] = at + 5 - s * ROOM;
        }

        private int leastLike(int s) {
            for (int r = 0; r < s; r++) {
                if (outcomeSize[r] == outcomeSize[s]
                        && Text.isAlike(outcome, r * ROOM, s * ROOM, outcomeSize[s])) {
                    return r;
                }
            }
            return s;
        }

        int unlike(int settings) {
            int found = 0;
            for (int s = 0; s < settings && s < SETTINGS; s++) {
                found += least[s] == s ? 1 : 0;
            }
            return found;
        }

        /** The SWITCHES, as bits, that alone change the outcome by some SETTING. */
        int changing(int switchCount) {
            int bits = 0;
            for (int s = 0; s < 1 << switchCount && s < SETTINGS; s++) {
                for (int b = 0; b < switchCount; b++) {
                    bits |= least[s] != least[s ^ 1 << b] ? 1 << b : 0;
                }
            }
            return bits;
        }
    }
}
