import java.util.ArrayList;
import java.util.Arrays;
import java.util.List;
import java.util.regex.Matcher;
import java.util.regex.Pattern;

/**
 * The document once more, told in the slowest and plainest way: sets are rows of booleans, nothing is
 * kept that can be found anew.
 */
final class Model {
    private static final int BAD = -1, STATE = -2, FULL = -3, NONE = -9;
    private static final Pattern TOKEN = Pattern.compile("[a-z]+|[0-9]+|[!;]");

    /** A clause or a step's line: signs[letter] is 1 (it has the letter), -1 (with !), 0. */
    static final class Row {
        final int[] signs = new int[8];
        int side = 0;
        int i = NONE;
        int j = NONE;
        int letter = NONE;

        boolean in(int world) {
            for (int k = 0; k < 8; k++) {
                if (signs[k] == ((world & 1 << k) != 0 ? 1 : -1)) {
                    return true;
                }
            }
            return false;
        }

        int size() {
            return (int) Arrays.stream(signs).filter(s -> s != 0).count();
        }

        int bits(int sign) {
            int bits = 0;
            for (int k = 0; k < 8; k++) {
                bits += signs[k] == sign ? 1 << k : 0;
            }
            return bits;
        }
    }

    private static final class Fault extends Exception {
        private static final long serialVersionUID = 1L;
        final int place;

        Fault(int place) {
            this.place = place;
        }
    }

    private StringBuilder text = new StringBuilder();
    List<Row> clauses = new ArrayList<>();
    List<Row> lines = new ArrayList<>();
    private int steps = 0;
    private int wrong = NONE;
    private boolean[] told = new boolean[256];
    private long trace = 0;

    // ---- texts

    int type(long v, int n) {
        if (n < 1 || n > 8) {
            return BAD;
        }
        if (text.length() + n > 300) {
            return FULL;
        }
        byte[] all = java.nio.ByteBuffer.allocate(8).putLong(v).array();
        for (int k = 8 - n; k < 8; k++) {
            text.append((char) (all[k] & 255));
        }
        return text.length();
    }

    int clear() {
        int had = text.length();
        text = new StringBuilder();
        return had;
    }

    /** Tokens as texts, with the places of their first bytes; a last one, "", stands at the end. */
    private int[] places;
    private String[] tokens;
    private int at;

    /** Cuts the text into tokens; what is no token ends the row as "?". */
    private void cutText() {
        List<String> found = new ArrayList<>();
        List<Integer> where = new ArrayList<>();
        Matcher matcher = TOKEN.matcher(text);
        int place = 0;
        boolean good = true;
        while (good) {
            while (place < text.length() && text.charAt(place) == ' ') {
                place++;
            }
            where.add(place);
            if (place == text.length()) {
                found.add("");
                good = false;
            } else if (matcher.region(place, text.length()).lookingAt()) {
                found.add(matcher.group());
                place = matcher.end();
            } else {
                found.add("?");
                good = false;
            }
        }
        tokens = found.toArray(new String[0]);
        places = where.stream().mapToInt(n -> n).toArray();
        at = 0;
    }

    private String take(String shape) throws Fault {
        if (!tokens[at].matches(shape)) {
            throw new Fault(places[at]);
        }
        return tokens[at++];
    }

    private boolean next(String shape) {
        return tokens[at].matches(shape);
    }

    int clauses() {
        cutText();
        List<Row> read = new ArrayList<>();
        try {
            while (!next("")) {
                if (read.size() == 16) {
                    throw new Fault(places[at]);
                }
                Row row = new Row();
                row.side = take("one|two").equals("one") ? 1 : 2;
                while (!next(";")) {
                    int sign = 1;
                    if (next("!")) {
                        take("!");
                        sign = -1;
                    }
                    int letter = take("[a-h]").charAt(0) - 'a';
                    if (row.signs[letter] != 0) {
                        throw new Fault(places[at - 1]);
                    }
                    row.signs[letter] = sign;
                }
                take(";");
                read.add(row);
            }
        } catch (Fault fault) {
            return -10 - fault.place;
        }
        text = new StringBuilder();
        clauses = read;
        lines = new ArrayList<>(read);
        steps = 0;
        wrong = NONE;
        told = new boolean[256];
        return read.size();
    }

    private int takeLine(int ahead) throws Fault {
        int number = Integer.parseInt(take("0|[1-9][0-9]?"));
        if (number >= ahead) {
            throw new Fault(places[at - 1]);
        }
        return number;
    }

    int proof() {
        cutText();
        List<int[]> read = new ArrayList<>();
        try {
            while (!next("")) {
                if (read.size() == 24) {
                    throw new Fault(places[at]);
                }
                take("cut");
                int ahead = clauses.size() + read.size();
                int i = takeLine(ahead);
                int j = takeLine(ahead);
                int letter = take("[a-h]").charAt(0) - 'a';
                take(";");
                read.add(new int[] {i, j, letter});
            }
        } catch (Fault fault) {
            return -10 - fault.place;
        }
        text = new StringBuilder();
        lines = new ArrayList<>(clauses);
        steps = read.size();
        wrong = NONE;
        for (int k = 0; k < steps && wrong == NONE; k++) {
            Row made = cut(read.get(k)[0], read.get(k)[1], read.get(k)[2]);
            if (made == null) {
                wrong = k;
            } else {
                lines.add(made);
            }
        }
        return lines.size() - clauses.size();
    }

    Row cut(int i, int j, int letter) {
        Row p = lines.get(i);
        Row q = lines.get(j);
        if (p.signs[letter] != 1 || q.signs[letter] != -1) {
            return null;
        }
        Row made = new Row();
        made.i = i;
        made.j = j;
        made.letter = letter;
        for (int k = 0; k < 8; k++) {
            if (k != letter) {
                if (p.signs[k] * q.signs[k] < 0) {
                    return null;
                }
                made.signs[k] = p.signs[k] != 0 ? p.signs[k] : q.signs[k];
            }
        }
        return made;
    }

    int wrong() {
        return wrong;
    }

    int end() {
        for (int i = 0; i < lines.size(); i++) {
            if (lines.get(i).size() == 0) {
                return i;
            }
        }
        return NONE;
    }

    // ---- lines

    private boolean noLine(int i) {
        return i < 0 || i >= lines.size();
    }

    int line(int i, int what) {
        if (noLine(i) || what < 0 || what > 5) {
            return BAD;
        }
        Row row = lines.get(i);
        return new int[] {row.bits(1), row.bits(-1), row.side, row.i, row.j, row.letter}[what];
    }

    int side(int letter) {
        if (letter < 0 || letter > 7) {
            return BAD;
        }
        boolean one = clauses.stream().anyMatch(c -> c.side == 1 && c.signs[letter] != 0);
        boolean two = clauses.stream().anyMatch(c -> c.side == 2 && c.signs[letter] != 0);
        return one ? two ? 3 : 1 : two ? 2 : 0;
    }

    int holds(int i, int world) {
        if (noLine(i) || world < 0 || world > 255) {
            return BAD;
        }
        return lines.get(i).in(world) ? 1 : 0;
    }

    private boolean[] worldsOfSide(int side) {
        boolean[] set = new boolean[256];
        for (int w = 0; w < 256; w++) {
            set[w] = true;
            for (Row clause : clauses) {
                set[w] &= clause.side != side || clause.in(w);
            }
        }
        return set;
    }

    private static int size(boolean[] set) {
        int size = 0;
        for (boolean each : set) {
            size += each ? 1 : 0;
        }
        return size;
    }

    int worlds(int what) {
        boolean[] one = worldsOfSide(1);
        boolean[] two = worldsOfSide(2);
        if (what == 2) {
            for (int w = 0; w < 256; w++) {
                one[w] &= two[w];
            }
        }
        return what == 0 || what == 2 ? size(one) : what == 1 ? size(two) : BAD;
    }

    // ---- sayings

    private boolean sharedLiteralIsSo(Row clause, int world) {
        for (int k = 0; k < 8; k++) {
            if (side(k) == 3 && clause.signs[k] == ((world & 1 << k) != 0 ? 1 : -1)) {
                return true;
            }
        }
        return false;
    }

    private boolean saysSo(int way, int i, int world) {
        Row row = lines.get(i);
        if (row.side == 1) {
            return way == 0 && sharedLiteralIsSo(row, world);
        }
        if (row.side == 2) {
            return way != 1 || !sharedLiteralIsSo(row, world);
        }
        boolean p = saysSo(way, row.i, world);
        boolean q = saysSo(way, row.j, world);
        int side = side(row.letter);
        switch (way) {
            case 0:
                return side == 1 ? p || q : p && q;
            case 1:
                return side == 2 ? p && q : p || q;
            default:
                return side == 1 ? p || q : side == 2 ? p && q : (world & 1 << row.letter) != 0 ? q : p;
        }
    }

    int says(int way, int i, int world) {
        if (way < 0 || way > 2 || noLine(i) || world < 0 || world > 255) {
            return BAD;
        }
        return saysSo(way, i, world) ? 1 : 0;
    }

    private boolean[] sayingOf(int way, int i) {
        boolean[] set = new boolean[256];
        for (int w = 0; w < 256; w++) {
            set[w] = saysSo(way, i, w);
        }
        return set;
    }

    private int sharedMask() {
        int mask = 0;
        for (int k = 0; k < 8; k++) {
            mask += side(k) == 3 ? 1 << k : 0;
        }
        return mask;
    }

    /** The worlds that are alike in these letters to one of the set. */
    private static boolean[] alike(boolean[] set, int letters) {
        boolean[] wide = new boolean[256];
        for (int w = 0; w < 256; w++) {
            for (int v = 0; v < 256; v++) {
                wide[w] |= set[v] && (w & letters) == (v & letters);
            }
        }
        return wide;
    }

    /** By the numbers of looks(); null: there is no END. */
    private boolean[] set(int which) {
        if (which < 3) {
            return end() == NONE ? null : sayingOf(which, end());
        }
        if (which == 3) {
            return alike(worldsOfSide(1), sharedMask());
        }
        if (which == 4) {
            boolean[] out = alike(worldsOfSide(2), sharedMask());
            for (int w = 0; w < 256; w++) {
                out[w] = !out[w];
            }
            return out;
        }
        return told;
    }

    long saying(int way, int part) {
        if (way < 0 || way > 2 || part < 0 || part > 3 || end() == NONE) {
            return 0;
        }
        boolean[] set = set(way);
        long bits = 0;
        for (int k = 0; k < 64; k++) {
            bits |= set[64 * part + k] ? 1L << k : 0;
        }
        return bits;
    }

    private static int looksOf(boolean[] set) {
        int letters = 0;
        for (int w = 0; w < 256; w++) {
            for (int k = 0; k < 8; k++) {
                if (set[w] && !set[w ^ 1 << k]) {
                    letters |= 1 << k;
                }
            }
        }
        return letters;
    }

    private int checkOf(boolean[] set) {
        if ((looksOf(set) & ~sharedMask()) != 0) {
            return 1;
        }
        boolean[] one = worldsOfSide(1);
        boolean[] two = worldsOfSide(2);
        int worst = 0;
        for (int w = 0; w < 256; w++) {
            if (one[w] && !set[w]) {
                return 2;
            }
            if (two[w] && set[w]) {
                worst = 3;
            }
        }
        return worst;
    }

    int between(int way) {
        return way < 0 || way > 2 ? BAD : end() == NONE ? STATE : checkOf(set(way));
    }

    int looks(int which) {
        return which < 0 || which > 5 ? BAD : set(which) == null ? STATE : looksOf(set(which));
    }

    int compare(int one, int other) {
        if (one < 0 || one > 5 || other < 0 || other > 5) {
            return BAD;
        }
        boolean[] p = set(one);
        boolean[] q = set(other);
        if (p == null || q == null) {
            return STATE;
        }
        boolean more = false;
        boolean less = false;
        for (int w = 0; w < 256; w++) {
            more |= p[w] && !q[w];
            less |= q[w] && !p[w];
        }
        return more ? less ? 3 : 2 : less ? 1 : 0;
    }

    int bounds(int what) {
        if (what < 0 || what > 2) {
            return BAD;
        }
        if (what < 2) {
            return size(set(3 + what));
        }
        boolean[] strong = set(3);
        boolean[] weak = set(4);
        int free = 0;
        for (int w = 0; w < 256; w++) {
            // One world stands for all alike: the one in which no other letter is so.
            free += (w & ~sharedMask()) == 0 && weak[w] && !strong[w] ? 1 : 0;
        }
        return free;
    }

    private boolean apart(int letters) {
        boolean[] one = alike(worldsOfSide(1), letters);
        boolean[] two = alike(worldsOfSide(2), letters);
        for (int w = 0; w < 256; w++) {
            if (one[w] && two[w]) {
                return false;
            }
        }
        return true;
    }

    int fewest(int what) {
        if (what < 0 || what > 1) {
            return BAD;
        }
        for (int n = 0; n <= 8; n++) {
            for (int set = 0; set < 256; set++) {
                if (Integer.bitCount(set) == n && (set & ~sharedMask()) == 0 && apart(set)) {
                    return what == 0 ? n : set;
                }
            }
        }
        return NONE;
    }

    int tell(int world, int is) {
        if (world < 0 || world > 255 || is < 0 || is > 1) {
            return BAD;
        }
        int was = told[world] ? 1 : 0;
        told[world] = is == 1;
        return was;
    }

    int copy(int which, int from, int to) {
        if (which < 0 || which > 4 || from < 0 || to > 255 || from > to) {
            return BAD;
        }
        if (end() == NONE) {
            return STATE;
        }
        boolean[] set = set(which);
        int changed = 0;
        for (int w = from; w <= to; w++) {
            changed += told[w] != set[w] ? 1 : 0;
            told[w] = set[w];
        }
        return changed;
    }

    int check() {
        return checkOf(told);
    }

    // ---- clauses that count

    private int under(int i) {
        Row row = lines.get(i);
        return row.side != 0 ? 1 << i : under(row.i) | under(row.j);
    }

    int used() {
        return end() == NONE ? STATE : under(end());
    }

    int needed(int what) {
        if (what < 0 || what > 1) {
            return BAD;
        }
        int[] broken = new int[256];
        for (int w = 0; w < 256; w++) {
            for (int c = 0; c < clauses.size(); c++) {
                broken[w] |= clauses.get(c).in(w) ? 0 : 1 << c;
            }
        }
        int best = NONE;
        for (int set = 0; set < 1 << clauses.size(); set++) {
            boolean clash = true;
            for (int w = 0; w < 256 && clash; w++) {
                clash = (broken[w] & set) != 0;
            }
            if (clash && (best == NONE || Integer.bitCount(set) < Integer.bitCount(best))) {
                best = set;
            }
        }
        return best == NONE ? NONE : what == 0 ? Integer.bitCount(best) : best;
    }

    int labour(int kind, int i) {
        if (kind < 0 || kind > 3 || noLine(i)) {
            return BAD;
        }
        trace += new int[] {1, 11, 101, 1011}[kind];
        int rule = lines.get(i).size();
        int left = rule + size(sayingOf(0, i));
        return new int[] {rule, left, rule + rule + 1, left >> 1}[kind];
    }

    int count(int what) {
        if (what < 0 || what > 5) {
            return BAD;
        }
        return new int[] {
            clauses.size(), lines.size() - clauses.size(), steps, Integer.bitCount(sharedMask()),
            text.length(), size(told),
        }[what];
    }

    long trace() {
        return trace;
    }
}
