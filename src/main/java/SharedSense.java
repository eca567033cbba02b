/**
 * Two sides of clauses that clash, a proof by cuts that they do, and the sayings that stand between
 * them. The terms are those of the document, DOC.md.
 */
public final class SharedSense {
    public static final int BAD = -1, STATE = -2, FULL = -3, NONE = -9;

    private static final int LETTERS = 8;
    private static final int ALL_LETTERS = 255;
    private static final int WORLDS = 256;
    private static final int PARTS = 4;
    private static final int WAYS = 3;
    private static final int MOST_BYTES = 300;
    private static final int MOST_CLAUSES = 16;
    private static final int MOST_STEPS = 24;
    private static final int MOST_LINES = MOST_CLAUSES + MOST_STEPS;
    private static final int FAULT_BASE = -10;
    private static final int NO_FAULT = -1;

    private static final int ONE_ALONE = 1;
    private static final int TWO_ALONE = 2;
    private static final int IS_SHARED = 3;

    private static final int STRONGEST = 3;
    private static final int WEAKEST = 4;
    private static final int TOLD = 5;

    private final Text text = new Text();
    private final Reader reader = new Reader();
    private final Line[] lines = new Line[MOST_LINES];
    private final Sides sides = new Sides();
    private final Core core = new Core();
    private final WorldSet told = new WorldSet();
    private final Trail trail = new Trail();
    private final Rule plainRule = new Rule();
    private final Rule leftRule = new Left();
    private final Rule rightRule = new Right();
    private final Rule evenRule = new Even();
    private int clauseCount;
    private int lineCount;
    private int stepCount;
    private int wrongStep = NONE;
    private int endLine = NONE;

    public SharedSense() {
        for (int i = 0; i < lines.length; i++) {
            lines[i] = new Line();
        }
    }

    // ---- texts

    public int type(long v, int n) {
        if (n < 1 || n > 8) {
            return BAD;
        }
        return text.append(v, n) ? text.size() : FULL;
    }

    public int clear() {
        int had = text.size();
        text.wipe();
        return had;
    }

    public int clauses() {
        int fault = reader.readClauses(text);
        if (fault != NO_FAULT) {
            return FAULT_BASE - fault;
        }
        text.wipe();
        takeClauses();
        return clauseCount;
    }

    public int proof() {
        int fault = reader.readSteps(text, clauseCount);
        if (fault != NO_FAULT) {
            return FAULT_BASE - fault;
        }
        text.wipe();
        takeSteps();
        return lineCount - clauseCount;
    }

    public int wrong() {
        return wrongStep;
    }

    public int end() {
        return endLine;
    }

    // ---- lines

    public int line(int i, int what) {
        Line asked = lineAt(i);
        return asked == null ? BAD : asked.property(what);
    }

    public int side(int letter) {
        return letter < 0 || letter >= LETTERS ? BAD : sides.ownerOf(letter);
    }

    public int holds(int i, int world) {
        Line asked = lineAt(i);
        if (asked == null || !isWorld(world)) {
            return BAD;
        }
        return asked.isSoIn(world) ? 1 : 0;
    }

    public int worlds(int what) {
        switch (what) {
            case 0:
                return sides.one.size();
            case 1:
                return sides.two.size();
            case 2:
                return sides.one.sizeWith(sides.two);
            default:
                return BAD;
        }
    }

    // ---- sayings

    public int says(int way, int i, int world) {
        Line asked = lineAt(i);
        if (!isWay(way) || asked == null || !isWorld(world)) {
            return BAD;
        }
        return asked.sayingBy(way).has(world) ? 1 : 0;
    }

    public long saying(int way, int part) {
        Line last = lineAt(endLine);
        if (!isWay(way) || part < 0 || part >= PARTS || last == null) {
            return 0L;
        }
        return last.sayingBy(way).part(part);
    }

    public int between(int way) {
        if (!isWay(way)) {
            return BAD;
        }
        Line last = lineAt(endLine);
        return last == null ? STATE : sides.judge(last.sayingBy(way));
    }

    public int looks(int which) {
        if (which < 0 || which > TOLD) {
            return BAD;
        }
        WorldSet set = setOf(which);
        return set == null ? STATE : set.lettersLookedAt();
    }

    public int compare(int one, int other) {
        if (one < 0 || one > TOLD || other < 0 || other > TOLD) {
            return BAD;
        }
        WorldSet first = setOf(one);
        WorldSet second = setOf(other);
        if (first == null || second == null) {
            return STATE;
        }
        boolean firstInside = first.isWithin(second);
        boolean secondInside = second.isWithin(first);
        if (firstInside) {
            return secondInside ? 0 : 1;
        }
        return secondInside ? 2 : 3;
    }

    public int bounds(int what) {
        switch (what) {
            case 0:
                return sides.strongest.size();
            case 1:
                return sides.weakest.size();
            case 2:
                return sides.freeChoices();
            default:
                return BAD;
        }
    }

    public int fewest(int what) {
        return what < 0 || what > 1 ? BAD : sizeOrSet(what, sides.fewestLetters());
    }

    public int tell(int world, int is) {
        if (!isWorld(world) || is < 0 || is > 1) {
            return BAD;
        }
        int was = told.has(world) ? 1 : 0;
        told.put(world, is == 1);
        return was;
    }

    public int copy(int which, int from, int to) {
        if (which < 0 || which > WEAKEST || !isWorld(from) || !isWorld(to) || from > to) {
            return BAD;
        }
        WorldSet source = setOf(which);
        // The document asks for an END here whatever is copied, not of WAYS alone as looks() does.
        if (source == null || endLine == NONE) {
            return STATE;
        }
        int changed = 0;
        for (int world = from; world <= to && world < WORLDS; world++) {
            if (told.has(world) != source.has(world)) {
                told.put(world, source.has(world));
                changed++;
            }
        }
        return changed;
    }

    public int check() {
        return sides.judge(told);
    }

    // ---- clauses that count

    public int used() {
        return endLine == NONE ? STATE : clausesUnder(endLine);
    }

    public int needed(int what) {
        return what < 0 || what > 1 ? BAD : sizeOrSet(what, core.leastSet());
    }

    public int labour(int kind, int i) {
        Rule rule = ruleOf(kind);
        Line asked = lineAt(i);
        return rule == null || asked == null ? BAD : rule.work(asked, trail);
    }

    public int count(int what) {
        switch (what) {
            case 0:
                return clauseCount;
            case 1:
                return lineCount - clauseCount;
            case 2:
                return stepCount;
            case 3:
                return Integer.bitCount(sides.sharedLetters());
            case 4:
                return text.size();
            case 5:
                return told.size();
            default:
                return BAD;
        }
    }

    public long trace() {
        return trail.sum();
    }

    // ---- within

    private static boolean isWorld(int world) {
        return world >= 0 && world < WORLDS;
    }

    private static boolean isWay(int way) {
        return way >= 0 && way < WAYS;
    }

    private static int sizeOrSet(int what, int set) {
        return set == NONE || what == 1 ? set : Integer.bitCount(set);
    }

    /** The line of that number, or null if no such line stands. */
    private Line lineAt(int i) {
        return i < 0 || i >= lineCount || i >= lines.length ? null : lines[i];
    }

    /** The set that looks(), compare() and copy() number so; null: a way's, and there is no END. */
    private WorldSet setOf(int which) {
        switch (which) {
            case STRONGEST:
                return sides.strongest;
            case WEAKEST:
                return sides.weakest;
            case TOLD:
                return told;
            default:
                Line last = lineAt(endLine);
                return last == null ? null : last.sayingBy(which);
        }
    }

    private Rule ruleOf(int kind) {
        switch (kind) {
            case 0:
                return plainRule;
            case 1:
                return leftRule;
            case 2:
                return rightRule;
            case 3:
                return evenRule;
            default:
                return null;
        }
    }

    private void takeClauses() {
        clauseCount = Math.min(reader.clausesRead(), lines.length);
        for (int i = 0; i < clauseCount; i++) {
            lines[i].becomeClause(reader.sideOf(i), reader.plainOf(i), reader.turnedOf(i));
        }
        sides.learn(lines, clauseCount);
        core.learn(lines, clauseCount);
        for (int i = 0; i < clauseCount; i++) {
            lines[i].sayAsClause(sides.sharedLetters());
        }
        told.wipe();
        forgetProof();
        endLine = firstEmptyLine();
    }

    private void forgetProof() {
        lineCount = clauseCount;
        stepCount = 0;
        wrongStep = NONE;
    }

    private void takeSteps() {
        forgetProof();
        stepCount = reader.stepsRead();
        for (int step = 0; step < stepCount && wrongStep == NONE; step++) {
            if (makeLine(step)) {
                lineCount++;
            } else {
                wrongStep = step;
            }
        }
        endLine = firstEmptyLine();
    }

    /** Puts what a step makes behind the lines; false: the step is wrong. */
    private boolean makeLine(int step) {
        int first = reader.firstOf(step);
        int second = reader.secondOf(step);
        int letter = reader.letterOf(step);
        Line having = lineAt(first);
        Line lacking = lineAt(second);
        if (having == null || lacking == null || lineCount >= lines.length) {
            return false;
        }
        Line made = lines[lineCount];
        if (!made.becomeCut(having, lacking, letter)) {
            return false;
        }
        made.rememberCut(first, second, letter);
        made.sayAsCut(having, lacking, sides.ownerOf(letter));
        return true;
    }

    private int firstEmptyLine() {
        for (int i = 0; i < lineCount && i < lines.length; i++) {
            if (lines[i].literals() == 0) {
                return i;
            }
        }
        return NONE;
    }

    /** The clauses on which a line rests, as bits: steps stand behind the lines that they cut. */
    private int clausesUnder(int root) {
        long marked = bitOf(root);
        for (int i = Math.min(root, lines.length - 1); i >= clauseCount; i--) {
            if ((marked & bitOf(i)) != 0L) {
                marked |= bitOf(lines[i].first) | bitOf(lines[i].second);
            }
        }
        return (int) (marked & (bitOf(clauseCount) - 1L));
    }

    private static long bitOf(int i) {
        return i < 0 || i >= 64 ? 0L : 1L << i;
    }

    /** A set of worlds: world w is bit w % 64 of part w / 64. */
    private static final class WorldSet {
        /** Of letters 0 .. 5: the worlds of any part in which the letter is so. */
        private static final long[] SO = {
            0xAAAAAAAAAAAAAAAAL, 0xCCCCCCCCCCCCCCCCL, 0xF0F0F0F0F0F0F0F0L,
            0xFF00FF00FF00FF00L, 0xFFFF0000FFFF0000L, 0xFFFFFFFF00000000L,
        };

        private final long[] parts = new long[PARTS];

        /** Part p of the worlds in which a letter is so. */
        private static long partWhereSo(int letter, int p) {
            if (letter >= 0 && letter < SO.length) {
                return SO[letter];
            }
            return (p >> (letter - SO.length) & 1) != 0 ? -1L : 0L;
        }

        boolean has(int world) {
            return isWorld(world) && (parts[world >> 6] >>> (world & 63) & 1L) != 0L;
        }

        void put(int world, boolean in) {
            if (!isWorld(world)) {
                return;
            }
            long bit = 1L << (world & 63);
            if (in) {
                parts[world >> 6] |= bit;
            } else {
                parts[world >> 6] &= ~bit;
            }
        }

        long part(int p) {
            return p < 0 || p >= PARTS ? 0L : parts[p];
        }

        int size() {
            int size = 0;
            for (int p = 0; p < PARTS; p++) {
                size += Long.bitCount(parts[p]);
            }
            return size;
        }

        int sizeWith(WorldSet other) {
            int size = 0;
            for (int p = 0; p < PARTS; p++) {
                size += Long.bitCount(parts[p] & other.parts[p]);
            }
            return size;
        }

        boolean isWithin(WorldSet other) {
            return sizeWith(other) == size();
        }

        /** The least world of the set; -1: it has none. */
        int leastWorld() {
            for (int p = 0; p < PARTS; p++) {
                if (parts[p] != 0L) {
                    long lowest = parts[p] & -parts[p];
                    return 64 * p + Long.bitCount(lowest - 1L);
                }
            }
            return -1;
        }

        void wipe() {
            for (int p = 0; p < PARTS; p++) {
                parts[p] = 0L;
            }
        }

        void turn() {
            for (int p = 0; p < PARTS; p++) {
                parts[p] = ~parts[p];
            }
        }

        void fill() {
            wipe();
            turn();
        }

        void become(WorldSet other) {
            for (int p = 0; p < PARTS; p++) {
                parts[p] = other.parts[p];
            }
        }

        void join(WorldSet other) {
            for (int p = 0; p < PARTS; p++) {
                parts[p] |= other.parts[p];
            }
        }

        void meet(WorldSet other) {
            for (int p = 0; p < PARTS; p++) {
                parts[p] &= other.parts[p];
            }
        }

        void joinWhere(int letter, boolean so) {
            for (int p = 0; p < PARTS; p++) {
                long where = partWhereSo(letter, p);
                parts[p] |= so ? where : ~where;
            }
        }

        void choose(int letter, WorldSet whereSo, WorldSet whereNot) {
            for (int p = 0; p < PARTS; p++) {
                long where = partWhereSo(letter, p);
                parts[p] = where & whereSo.parts[p] | ~where & whereNot.parts[p];
            }
        }

        /** Part p of the set in whose worlds the letter is the other way. */
        private long partTurned(int letter, int p) {
            if (p < 0 || p >= PARTS) {
                return 0L;
            }
            if (letter >= 0 && letter < SO.length) {
                int shift = 1 << letter;
                return (parts[p] & SO[letter]) >>> shift | parts[p] << shift & SO[letter];
            }
            // Letters 6 and 7 tell parts apart, so turning one of them swaps whole parts.
            int other = p ^ 1 << (letter - SO.length);
            return other < 0 || other >= PARTS ? 0L : parts[other];
        }

        /** Takes in, for each world of the set, the one with the letter the other way. */
        void spread(int letter) {
            for (int p = 0; p < PARTS; p++) {
                parts[p] |= partTurned(letter, p);
            }
        }

        void spreadBut(int letters) {
            for (int letter = 0; letter < LETTERS; letter++) {
                if ((letters >> letter & 1) == 0) {
                    spread(letter);
                }
            }
        }

        private boolean hangsOn(int letter) {
            for (int p = 0; p < PARTS; p++) {
                if (partTurned(letter, p) != parts[p]) {
                    return true;
                }
            }
            return false;
        }

        int lettersLookedAt() {
            int letters = 0;
            for (int letter = 0; letter < LETTERS; letter++) {
                if (hangsOn(letter)) {
                    letters |= 1 << letter;
                }
            }
            return letters;
        }
    }

    /** THE TEXT, and the newest of its tokens once it is read. */
    private static final class Text {
        static final int ENDED = 0;
        static final int SIDE = 1;
        static final int CUT = 2;
        static final int LETTER = 3;
        static final int NUMBER = 4;
        static final int NOT = 5;
        static final int STOP = 6;
        static final int NO_TOKEN = 7;

        private static final int BLANK = 32;
        private static final int MOST_NUMBER = 99;
        private static final int WORD_ONE = 'o' << 16 | 'n' << 8 | 'e';
        private static final int WORD_TWO = 't' << 16 | 'w' << 8 | 'o';
        private static final int WORD_CUT = 'c' << 16 | 'u' << 8 | 't';

        private final byte[] bytes = new byte[MOST_BYTES];
        private int length;
        private int place;
        private int start;
        private int kind;
        private int value;

        int size() {
            return length;
        }

        void wipe() {
            length = 0;
        }

        /** Takes in the lowest n bytes of v; false: there is no room for all of them. */
        boolean append(long v, int n) {
            if (n > MOST_BYTES - length) {
                return false;
            }
            for (int k = n - 1; k >= 0 && length < MOST_BYTES; k--) {
                bytes[length] = (byte) (v >>> (8 * k));
                length++;
            }
            return true;
        }

        /** The newest token's kind. */
        int kind() {
            return kind;
        }

        /** The newest token's side, letter or number. */
        int value() {
            return value;
        }

        /** The place of the newest token's first byte; the text's length, if the text has ended. */
        int start() {
            return start;
        }

        void readFirst() {
            place = 0;
            readNext();
        }

        void readNext() {
            skipBlanks();
            start = place;
            value = 0;
            int sign = byteAt(place);
            if (place >= length) {
                kind = ENDED;
            } else if (isWordSign(sign)) {
                readWord();
            } else if (isDigit(sign)) {
                readNumber();
            } else {
                kind = sign == '!' ? NOT : sign == ';' ? STOP : NO_TOKEN;
                place++;
            }
        }

        private void skipBlanks() {
            while (place < length && byteAt(place) == BLANK) {
                place++;
            }
        }

        private void readWord() {
            int word = 0;
            while (place < length && isWordSign(byteAt(place))) {
                word = word << 8 | byteAt(place);
                place++;
            }
            int signs = place - start;
            kind = NO_TOKEN;
            if (signs == 1 && word - 'a' < LETTERS) {
                kind = LETTER;
                value = word - 'a';
            } else if (signs == 3 && (word == WORD_ONE || word == WORD_TWO)) {
                kind = SIDE;
                value = word == WORD_ONE ? ONE_ALONE : TWO_ALONE;
            } else if (signs == 3 && word == WORD_CUT) {
                kind = CUT;
            }
        }

        private void readNumber() {
            while (place < length && isDigit(byteAt(place))) {
                // Held just above what is allowed, so that no row of digits runs over.
                value = Math.min(10 * value + byteAt(place) - '0', MOST_NUMBER + 1);
                place++;
            }
            boolean zeroAhead = place - start > 1 && byteAt(start) == '0';
            kind = zeroAhead || value > MOST_NUMBER ? NO_TOKEN : NUMBER;
        }

        /** A byte as 0 .. 255; -1: the text has no such place. */
        private int byteAt(int at) {
            return at < 0 || at >= length || at >= MOST_BYTES ? -1 : bytes[at] & 255;
        }

        private static boolean isWordSign(int sign) {
            return sign >= 'a' && sign <= 'z';
        }

        private static boolean isDigit(int sign) {
            return sign >= '0' && sign <= '9';
        }
    }

    /** Reads texts into rows of its own, so that a text with a fault changes nothing else. */
    private static final class Reader {
        private final int[] clauseSide = new int[MOST_CLAUSES];
        private final int[] plainLetters = new int[MOST_CLAUSES];
        private final int[] turnedLetters = new int[MOST_CLAUSES];
        private int clausesRead;
        private int plainNow;
        private int turnedNow;
        private final int[] firstLine = new int[MOST_STEPS];
        private final int[] secondLine = new int[MOST_STEPS];
        private final int[] cutLetter = new int[MOST_STEPS];
        private int stepsRead;

        private static int at(int[] row, int i) {
            return i < 0 || i >= row.length ? 0 : row[i];
        }

        int clausesRead() {
            return clausesRead;
        }

        int sideOf(int clause) {
            return at(clauseSide, clause);
        }

        int plainOf(int clause) {
            return at(plainLetters, clause);
        }

        int turnedOf(int clause) {
            return at(turnedLetters, clause);
        }

        int stepsRead() {
            return stepsRead;
        }

        int firstOf(int step) {
            return at(firstLine, step);
        }

        int secondOf(int step) {
            return at(secondLine, step);
        }

        int letterOf(int step) {
            return at(cutLetter, step);
        }

        /** The place of the fault, or NO_FAULT. */
        int readClauses(Text text) {
            clausesRead = 0;
            text.readFirst();
            for (int i = 0; i < MOST_CLAUSES && text.kind() != Text.ENDED; i++) {
                if (!readClause(text, i)) {
                    return text.start();
                }
                clausesRead++;
            }
            return text.kind() == Text.ENDED ? NO_FAULT : text.start();
        }

        /** False: the newest token can't stand where it does. */
        private boolean readClause(Text text, int clause) {
            if (clause < 0 || clause >= MOST_CLAUSES || text.kind() != Text.SIDE) {
                return false;
            }
            clauseSide[clause] = text.value();
            plainNow = 0;
            turnedNow = 0;
            text.readNext();
            // Once more than there are letters: that one is told twice, and its place is the fault.
            for (int n = 0; n <= LETTERS && text.kind() != Text.STOP; n++) {
                if (!readLiteral(text)) {
                    return false;
                }
            }
            plainLetters[clause] = plainNow;
            turnedLetters[clause] = turnedNow;
            return passed(text, Text.STOP);
        }

        private boolean readLiteral(Text text) {
            boolean turned = text.kind() == Text.NOT;
            if (turned) {
                text.readNext();
            }
            int bit = 1 << text.value();
            if (text.kind() != Text.LETTER || ((plainNow | turnedNow) & bit) != 0) {
                return false;
            }
            plainNow |= turned ? 0 : bit;
            turnedNow |= turned ? bit : 0;
            text.readNext();
            return true;
        }

        /** The place of the fault, or NO_FAULT. */
        int readSteps(Text text, int clauseCount) {
            stepsRead = 0;
            text.readFirst();
            for (int i = 0; i < MOST_STEPS && text.kind() != Text.ENDED; i++) {
                if (!readStep(text, i, clauseCount + i)) {
                    return text.start();
                }
                stepsRead++;
            }
            return text.kind() == Text.ENDED ? NO_FAULT : text.start();
        }

        private boolean readStep(Text text, int step, int linesAhead) {
            if (step < 0 || step >= MOST_STEPS || !passed(text, Text.CUT)) {
                return false;
            }
            firstLine[step] = text.value();
            if (text.value() >= linesAhead || !passed(text, Text.NUMBER)) {
                return false;
            }
            secondLine[step] = text.value();
            if (text.value() >= linesAhead || !passed(text, Text.NUMBER)) {
                return false;
            }
            cutLetter[step] = text.value();
            return passed(text, Text.LETTER) && passed(text, Text.STOP);
        }

        /** Goes on to the next token, if the newest is of that kind. */
        private static boolean passed(Text text, int kind) {
            if (text.kind() != kind) {
                return false;
            }
            text.readNext();
            return true;
        }
    }

    /** A clause, or what a step makes. */
    private static final class Line {
        private final WorldSet[] sayings = new WorldSet[WAYS];
        int plain;
        int turned;
        int owner;
        int first = NONE;
        int second = NONE;
        int letter = NONE;

        Line() {
            for (int way = 0; way < WAYS; way++) {
                sayings[way] = new WorldSet();
            }
        }

        int property(int what) {
            switch (what) {
                case 0:
                    return plain;
                case 1:
                    return turned;
                case 2:
                    return owner;
                case 3:
                    return first;
                case 4:
                    return second;
                case 5:
                    return letter;
                default:
                    return BAD;
            }
        }

        int literals() {
            return Integer.bitCount(plain) + Integer.bitCount(turned);
        }

        int letters() {
            return plain | turned;
        }

        boolean isSoIn(int world) {
            return (plain & world | turned & ~world) != 0;
        }

        WorldSet sayingBy(int way) {
            return sayings[way < 0 || way >= WAYS ? 0 : way];
        }

        /** Puts into a set the worlds in which one of the line's literals in these letters is so. */
        void gatherWorlds(WorldSet into, int among) {
            into.wipe();
            for (int each = 0; each < LETTERS; each++) {
                int bit = 1 << each & among;
                if ((plain & bit) != 0) {
                    into.joinWhere(each, true);
                }
                if ((turned & bit) != 0) {
                    into.joinWhere(each, false);
                }
            }
        }

        void becomeClause(int clauseOwner, int plainLetters, int turnedLetters) {
            plain = plainLetters;
            turned = turnedLetters;
            owner = clauseOwner;
            first = NONE;
            second = NONE;
            letter = NONE;
        }

        void sayAsClause(int shared) {
            if (owner == ONE_ALONE) {
                gatherWorlds(sayings[0], shared);
                sayings[1].wipe();
                sayings[2].wipe();
            } else {
                sayings[0].fill();
                gatherWorlds(sayings[1], shared);
                sayings[1].turn();
                sayings[2].fill();
            }
        }

        /** Takes all literals of both but the letter's; false: the cut is wrong, nothing changes. */
        boolean becomeCut(Line having, Line lacking, int cutLetter) {
            int bit = 1 << cutLetter;
            if ((having.plain & bit) == 0 || (lacking.turned & bit) == 0) {
                return false;
            }
            int newPlain = having.plain & ~bit | lacking.plain;
            int newTurned = having.turned | lacking.turned & ~bit;
            if ((newPlain & newTurned) != 0) {
                return false;
            }
            plain = newPlain;
            turned = newTurned;
            return true;
        }

        void rememberCut(int firstLine, int secondLine, int cutLetter) {
            owner = 0;
            first = firstLine;
            second = secondLine;
            letter = cutLetter;
        }

        void sayAsCut(Line having, Line lacking, int letterOwner) {
            for (int way = 0; way < WAYS; way++) {
                WorldSet p = having.sayings[way];
                WorldSet q = lacking.sayings[way];
                if (way == 2 && letterOwner == IS_SHARED) {
                    sayings[way].choose(letter, q, p);
                } else {
                    sayings[way].become(p);
                    if (joins(way, letterOwner)) {
                        sayings[way].join(q);
                    } else {
                        sayings[way].meet(q);
                    }
                }
            }
        }

        private static boolean joins(int way, int letterOwner) {
            return letterOwner == ONE_ALONE || letterOwner == IS_SHARED && way == 1;
        }
    }

    /** What the clauses of both sides leave open, and the bounds of what may be said between them. */
    private static final class Sides {
        final WorldSet one = new WorldSet();
        final WorldSet two = new WorldSet();
        final WorldSet strongest = new WorldSet();
        final WorldSet weakest = new WorldSet();
        private final WorldSet scratch = new WorldSet();
        private int lettersOfOne;
        private int lettersOfTwo;
        private boolean fewestKnown;
        private int fewestSet;

        /** Without clauses each side has all worlds, so the weakest has none. */
        Sides() {
            one.fill();
            two.fill();
            strongest.fill();
        }

        void learn(Line[] lines, int clauseCount) {
            one.fill();
            two.fill();
            lettersOfOne = 0;
            lettersOfTwo = 0;
            for (int i = 0; i < clauseCount && i < lines.length; i++) {
                lines[i].gatherWorlds(scratch, ALL_LETTERS);
                if (lines[i].owner == ONE_ALONE) {
                    one.meet(scratch);
                    lettersOfOne |= lines[i].letters();
                } else {
                    two.meet(scratch);
                    lettersOfTwo |= lines[i].letters();
                }
            }
            strongest.become(one);
            strongest.spreadBut(sharedLetters());
            weakest.become(two);
            weakest.spreadBut(sharedLetters());
            weakest.turn();
            fewestKnown = false;
        }

        int sharedLetters() {
            return lettersOfOne & lettersOfTwo;
        }

        int ownerOf(int letter) {
            int ofOne = lettersOfOne >> letter & 1;
            int ofTwo = lettersOfTwo >> letter & 1;
            return ONE_ALONE * ofOne + TWO_ALONE * ofTwo;
        }

        /** CHECK of a set. */
        int judge(WorldSet set) {
            if ((set.lettersLookedAt() & ~sharedLetters()) != 0) {
                return 1;
            }
            if (!one.isWithin(set)) {
                return 2;
            }
            return two.sizeWith(set) != 0 ? 3 : 0;
        }

        int freeChoices() {
            int free = weakest.size() - weakest.sizeWith(strongest);
            // Both bounds have, with a world, all that are alike in the shared letters.
            return free >> (LETTERS - Integer.bitCount(sharedLetters()));
        }

        /** FEWEST as a set; NONE. */
        int fewestLetters() {
            if (!fewestKnown) {
                fewestSet = findFewest();
                fewestKnown = true;
            }
            return fewestSet;
        }

        private int findFewest() {
            int best = NONE;
            int size = LETTERS + 1;
            for (int set = 0; set <= ALL_LETTERS; set++) {
                boolean shared = (set & ~sharedLetters()) == 0;
                if (shared && Integer.bitCount(set) < size && tellsApart(set)) {
                    best = set;
                    size = Integer.bitCount(set);
                }
            }
            return best;
        }

        private boolean tellsApart(int letters) {
            scratch.become(one);
            scratch.spreadBut(letters);
            return scratch.sizeWith(two) == 0;
        }
    }

    /** Looks for the fewest clauses that clash. */
    private static final class Core {
        private final WorldSet[] holding = new WorldSet[MOST_CLAUSES];
        /** By how many clauses are chosen: the worlds in which all of them hold. */
        private final WorldSet[] open = new WorldSet[MOST_CLAUSES + 1];
        private int clauseCount;
        private boolean known;
        private int best;
        private int bestSize;

        Core() {
            for (int i = 0; i < holding.length; i++) {
                holding[i] = new WorldSet();
            }
            for (int i = 0; i < open.length; i++) {
                open[i] = new WorldSet();
            }
        }

        void learn(Line[] lines, int told) {
            clauseCount = Math.min(told, MOST_CLAUSES);
            for (int i = 0; i < clauseCount && i < lines.length; i++) {
                lines[i].gatherWorlds(holding[i], ALL_LETTERS);
            }
            known = false;
        }

        /** NEEDED as a set; NONE. */
        int leastSet() {
            if (!known) {
                best = NONE;
                bestSize = MOST_CLAUSES + 1;
                if (allClash()) {
                    open[0].fill();
                    choose(0, 0, 0);
                }
                known = true;
            }
            return best;
        }

        private boolean allClash() {
            open[0].fill();
            for (int i = 0; i < clauseCount; i++) {
                open[0].meet(holding[i]);
            }
            return open[0].leastWorld() < 0;
        }

        /**
         * A set that clashes must have, for each world, a clause that does not hold there: so the least
         * open world tells which clauses may come next. What an earlier branch has chosen is barred from
         * later ones: all sets with it have been looked at there.
         */
        private void choose(int depth, int chosen, int barred) {
            if (depth < 0 || depth > clauseCount || depth > bestSize) {
                return;
            }
            int world = open[depth].leastWorld();
            if (world < 0) {
                keep(depth, chosen);
                return;
            }
            int closed = barred;
            for (int i = 0; i < clauseCount && depth < MOST_CLAUSES; i++) {
                int bit = 1 << i;
                if ((closed & bit) == 0 && !holding[i].has(world)) {
                    open[depth + 1].become(open[depth]);
                    open[depth + 1].meet(holding[i]);
                    choose(depth + 1, chosen | bit, closed);
                    closed |= bit;
                }
            }
        }

        private void keep(int size, int chosen) {
            if (size < bestSize || size == bestSize && chosen < best) {
                best = chosen;
                bestSize = size;
            }
        }
    }

    /** THE TRACE. */
    private static final class Trail {
        private long sum;

        void mark(int weight) {
            sum += weight;
        }

        long sum() {
            return sum;
        }
    }

    /** The kind over all others. */
    private static class Rule {
        int work(Line line, Trail trail) {
            trail.mark(1);
            return line.literals();
        }
    }

    private static class Left extends Rule {
        int work(Line line, Trail trail) {
            trail.mark(10);
            return super.work(line, trail) + line.sayingBy(0).size();
        }
    }

    private static final class Right extends Rule {
        int work(Line line, Trail trail) {
            trail.mark(100);
            return 2 * super.work(line, trail) + 1;
        }
    }

    private static final class Even extends Left {
        int work(Line line, Trail trail) {
            trail.mark(1000);
            return super.work(line, trail) / 2;
        }
    }
}
