import java.util.ArrayList;
import java.util.List;

/** Long runs of calls, the same each time, in which the class must answer as the plain model does. */
public final class ModelTest {
    private static final int RUNS = 400;
    private static final int CALLS = 512;
    private static final String[] NAMES = {
        "wrong", "end", "line", "side", "holds", "worlds", "says", "saying", "between", "looks", "compare",
        "bounds", "fewest", "tell", "copy", "check", "used", "needed", "labour", "count", "trace",
    };

    private static int wrong = 0;
    private static int ended = 0;
    private static final int[] asked = new int[NAMES.length];

    private long seed;
    private final int run;
    private final SharedSense real = new SharedSense();
    private final Model model = new Model();
    private final List<String> told = new ArrayList<>();

    private ModelTest(int run) {
        this.run = run;
        this.seed = 7919L * run + 1;
    }

    public static void main(String[] args) {
        for (int run = 0; run < RUNS && wrong < 20; run++) {
            new ModelTest(run).play();
        }
        if (ended < RUNS) {
            wrong++;
            System.out.println("only " + ended + " proofs came to an END");
        }
        for (int k = 0; k < NAMES.length; k++) {
            if (asked[k] < RUNS) {
                wrong++;
                System.out.println(NAMES[k] + " was asked " + asked[k] + " times only");
            }
        }
        if (wrong != 0) {
            System.exit(1);
        }
    }

    private int pick(int n) {
        seed = seed * 6364136223846793005L + 1442695040888963407L;
        return (int) ((seed >>> 33) % n);
    }

    /** Mostly 0 .. top - 1, sometimes what is beside it. */
    private int odd(int top) {
        switch (pick(40)) {
            case 0:
                return -1;
            case 1:
                return top;
            case 2:
                return Integer.MAX_VALUE - pick(3);
            case 3:
                return Integer.MIN_VALUE + pick(3);
            case 4:
                return -9;
            default:
                return pick(top);
        }
    }

    private void due(String call, long want, long got) {
        told.add(call + " -> " + want);
        if (want != got) {
            wrong++;
            System.out.println("run " + run + ": " + call + " answered " + got + ", the model " + want);
            System.out.println("  behind " + String.join("; ", told.subList(Math.max(0, told.size() - 60), told.size())));
        }
    }

    private void play() {
        while (told.size() < CALLS && wrong < 20) {
            switch (pick(20)) {
                case 0:
                    type(pick(8) == 0 ? spoilt(clauseText()) : clauseText());
                    due("clauses()", model.clauses(), real.clauses());
                    break;
                case 1:
                    type(pick(8) == 0 ? spoilt(proofText()) : proofText());
                    due("proof()", model.proof(), real.proof());
                    ended += model.lines.size() > model.clauses.size() && model.end() != -9 ? 1 : 0;
                    break;
                case 2:
                    typeOddly();
                    break;
                default:
                    for (int k = 0; k < 5; k++) {
                        ask(pick(NAMES.length));
                    }
            }
        }
    }

    private void typeOddly() {
        long v = (long) pick(1 << 30) << 34 ^ pick(1 << 30);
        int n = odd(9);
        due("type(" + v + ", " + n + ")", model.type(v, n), real.type(v, n));
        if (pick(2) == 0) {
            due("clear()", model.clear(), real.clear());
        } else if (pick(2) == 0) {
            due("clauses()", model.clauses(), real.clauses());
        } else {
            due("proof()", model.proof(), real.proof());
        }
    }

    private void type(String text) {
        if (pick(4) != 0) {
            due("clear()", model.clear(), real.clear());
        }
        for (int from = 0; from < text.length();) {
            int n = Math.min(text.length() - from, 1 + pick(8) | pick(8));
            n = Math.min(n, 8);
            long v = pick(2) == 0 ? 0 : -1;
            for (int k = 0; k < n; k++) {
                v = v << 8 | text.charAt(from + k);
            }
            due("type(" + v + ", " + n + ")", model.type(v, n), real.type(v, n));
            from += n;
        }
    }

    private String blanks() {
        return pick(6) == 0 ? "  ".substring(pick(2)) : "";
    }

    private String clauseText() {
        int letters = 1 + pick(pick(2) == 0 ? 3 : 8);
        int from = pick(9 - letters);
        int clauses = pick(10) == 0 ? pick(19) : 2 + pick(13);
        int most = 1 + pick(3);
        boolean sorted = pick(2) == 0;
        StringBuilder text = new StringBuilder();
        for (int c = 0; c < clauses; c++) {
            boolean one = sorted ? c < clauses / 2 : pick(2) == 0;
            text.append(blanks()).append(one ? "one" : "two");
            int had = 0;
            int literals = pick(12) == 0 ? pick(9) : 1 + pick(most);
            for (int k = 0; k < literals; k++) {
                int letter = from + pick(letters);
                if ((had & 1 << letter) == 0 || pick(200) == 0) {
                    had |= 1 << letter;
                    boolean not = pick(2) == 0;
                    text.append(not ? blanks() + "!" + blanks() : " ");
                    text.append((char) ('a' + letter));
                }
            }
            text.append(blanks()).append(';');
        }
        return text.toString();
    }

    private String proofText() {
        String guided = pick(5) == 0 ? null : proofOfClash();
        if (guided != null) {
            return guided;
        }
        StringBuilder text = new StringBuilder();
        int steps = pick(10) == 0 ? pick(28) : pick(8);
        int lines = model.clauses.size();
        for (int k = 0; k < steps && lines + k > 0; k++) {
            int[] step = {pick(lines + k), pick(lines + k), pick(8)};
            for (int turn = 0; turn < 40; turn++) {
                int[] other = {pick(lines + k), pick(lines + k), pick(8)};
                if (isGood(other)) {
                    step = other;
                }
            }
            text.append(stepText(step));
        }
        return text.toString();
    }

    private boolean isGood(int[] step) {
        int lines = model.clauses.size();
        return step[0] < lines && step[1] < lines && model.lines.size() >= lines
            && model.cut(step[0], step[1], step[2]) != null;
    }

    private String stepText(int[] step) {
        return blanks() + "cut " + step[0] + " " + step[1] + " " + (char) ('a' + step[2]) + blanks() + ";";
    }

    /** Cuts all that can be cut until a line is empty, and tells the steps that it rests on. */
    private String proofOfClash() {
        List<Model.Row> rows = new ArrayList<>(model.clauses);
        int clauses = rows.size();
        for (int j = 0; j < rows.size() && rows.size() < 400; j++) {
            for (int i = 0; i < j && rows.size() < 400; i++) {
                for (int letter = 0; letter < 8; letter++) {
                    Model.Row made = cut(rows, i, j, letter);
                    if (made != null && isNew(rows, made)) {
                        rows.add(made);
                        if (made.size() == 0) {
                            return stepsUnder(rows, rows.size() - 1, clauses);
                        }
                    }
                }
            }
        }
        return null;
    }

    private static boolean isNew(List<Model.Row> rows, Model.Row made) {
        return rows.stream().noneMatch(r -> r.bits(1) == made.bits(1) && r.bits(-1) == made.bits(-1));
    }

    private static Model.Row cut(List<Model.Row> rows, int i, int j, int letter) {
        Model helper = new Model();
        helper.lines = rows;
        Model.Row made = helper.cut(i, j, letter);
        return made != null ? made : helper.cut(j, i, letter);
    }

    private String stepsUnder(List<Model.Row> rows, int last, int clauses) {
        boolean[] marked = new boolean[rows.size()];
        marked[last] = true;
        for (int k = last; k >= clauses; k--) {
            if (marked[k] || pick(60) == 0) {
                marked[k] = true;
                marked[rows.get(k).i] = true;
                marked[rows.get(k).j] = true;
            }
        }
        int[] number = new int[rows.size()];
        int lines = clauses;
        StringBuilder text = new StringBuilder();
        for (int k = 0; k < rows.size(); k++) {
            number[k] = k;
            if (k >= clauses && marked[k]) {
                Model.Row row = rows.get(k);
                text.append(stepText(new int[] {number[row.i], number[row.j], row.letter}));
                number[k] = lines++;
            }
        }
        return text.toString();
    }

    private String spoilt(String text) {
        String signs = " !;0123456789abhionetwcut?A\t\u00ff\0";
        StringBuilder bad = new StringBuilder(text);
        int place = pick(text.length() + 1);
        String sign = "" + signs.charAt(pick(signs.length()));
        switch (pick(3)) {
            case 0:
                bad.insert(place, sign);
                break;
            case 1:
                bad.setLength(place);
                break;
            default:
                bad.replace(place, Math.min(place + 1, bad.length()), sign);
        }
        return bad.toString();
    }

    private void ask(int which) {
        asked[which]++;
        int lines = model.lines.size() + 1;
        int a;
        int b;
        int c;
        switch (NAMES[which]) {
            case "wrong":
                due("wrong()", model.wrong(), real.wrong());
                break;
            case "end":
                due("end()", model.end(), real.end());
                break;
            case "line":
                a = odd(lines);
                b = odd(6);
                due("line(" + a + ", " + b + ")", model.line(a, b), real.line(a, b));
                break;
            case "side":
                a = odd(8);
                due("side(" + a + ")", model.side(a), real.side(a));
                break;
            case "holds":
                a = odd(lines);
                b = odd(256);
                due("holds(" + a + ", " + b + ")", model.holds(a, b), real.holds(a, b));
                break;
            case "worlds":
                a = odd(3);
                due("worlds(" + a + ")", model.worlds(a), real.worlds(a));
                break;
            case "says":
                a = odd(3);
                b = odd(lines);
                c = odd(256);
                due("says(" + a + ", " + b + ", " + c + ")", model.says(a, b, c), real.says(a, b, c));
                break;
            case "saying":
                a = odd(3);
                b = odd(4);
                due("saying(" + a + ", " + b + ")", model.saying(a, b), real.saying(a, b));
                break;
            case "between":
                a = odd(3);
                due("between(" + a + ")", model.between(a), real.between(a));
                break;
            case "looks":
                a = odd(6);
                due("looks(" + a + ")", model.looks(a), real.looks(a));
                break;
            case "compare":
                a = odd(6);
                b = odd(6);
                due("compare(" + a + ", " + b + ")", model.compare(a, b), real.compare(a, b));
                break;
            default:
                askMore(which, lines);
        }
    }

    private void askMore(int which, int lines) {
        int a;
        int b;
        int c;
        switch (NAMES[which]) {
            case "bounds":
                a = odd(3);
                due("bounds(" + a + ")", model.bounds(a), real.bounds(a));
                break;
            case "fewest":
                a = odd(2);
                due("fewest(" + a + ")", model.fewest(a), real.fewest(a));
                break;
            case "tell":
                a = odd(256);
                b = odd(2);
                due("tell(" + a + ", " + b + ")", model.tell(a, b), real.tell(a, b));
                break;
            case "copy":
                a = odd(5);
                b = pick(2) == 0 ? 0 : odd(256);
                c = pick(2) == 0 ? 255 : odd(256);
                due("copy(" + a + ", " + b + ", " + c + ")", model.copy(a, b, c), real.copy(a, b, c));
                break;
            case "check":
                due("check()", model.check(), real.check());
                break;
            case "used":
                due("used()", model.used(), real.used());
                break;
            case "needed":
                a = odd(2);
                due("needed(" + a + ")", model.needed(a), real.needed(a));
                break;
            case "labour":
                a = odd(4);
                b = odd(lines);
                due("labour(" + a + ", " + b + ")", model.labour(a, b), real.labour(a, b));
                break;
            case "count":
                a = odd(6);
                due("count(" + a + ")", model.count(a), real.count(a));
                break;
            default:
                due("trace()", model.trace(), real.trace());
        }
    }
}
