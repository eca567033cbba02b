import java.util.ArrayList;
import java.util.List;
import java.util.function.Consumer;
import java.util.function.Supplier;
import java.util.function.ToLongFunction;

/**
 * "Refused, and nothing changes": an object on which a refused call was made answers all that can be asked
 * as one does on which it was not made. So it must behind calls that only ask, too.
 */
public final class RefusalTest extends Runs {
    private static final int[] WORLDS = {-1, 256, LOW, HIGH};
    private static final int[] WAYS = {-1, 3, LOW, HIGH};

    /** An object in some state, made anew for each call, and THE TEXT that it has. */
    private record State(String name, Supplier<SharedSense> bare, String text) {
        SharedSense make() {
            SharedSense x = bare.get();
            type(x, text);
            return x;
        }
    }

    private record Call(String name, long want, ToLongFunction<SharedSense> body) {
    }

    /** What an object answers when it is asked; each way of asking has an object of its own. */
    private record Asking(String name, Consumer<Answers> body) {
    }

    private static final class Answers {
        final SharedSense x;
        final List<String> all = new ArrayList<>();

        Answers(SharedSense x) {
            this.x = x;
        }

        void add(String call, long answer) {
            all.add(call + " " + answer);
        }
    }

    private static final List<Asking> ASKINGS = List.of(
        new Asking("lines", RefusalTest::askLines), new Asking("sayings", RefusalTest::askSayings),
        new Asking("worlds told", RefusalTest::askTold),
        new Asking("the text as clauses", RefusalTest::askTextAsClauses),
        new Asking("the text as a proof", RefusalTest::askTextAsProof));

    private static int calls;

    public static void main(String[] args) {
        for (State state : states()) {
            about("Refused, and nothing changes (" + state.name + ")");
            check(state, refused(state.make()));
            about("-10 less FAULT: nothing changes (" + state.name + ")");
            check(state, faults(state));
            about("What only asks changes nothing (" + state.name + ")");
            check(state, questions(state.make()));
        }
        about("RefusalTest");
        due("enough calls were looked at", 1, calls > 1500 ? 1 : 0);
        endWithWrongs();
    }

    private static List<State> states() {
        return List.of(
            new State("new", SharedSense::new, ""),
            new State("new, with a text", SharedSense::new, "one a;"),
            new State("clauses, no END", () -> told(withClauses(MIXED)), "cut 0 1 c;"),
            new State("a clause is the END", () -> told(withClauses("one a;two b;one;two !a;")), "one b;two;"),
            new State("a proof with an END", () -> told(withProof(MIXED, MIXED_PROOF)), "cut 0 1 c; cut 5 3 b;"),
            new State("a WRONG proof", () -> told(withProof(CHAIN, "cut 0 1 a; cut 1 0 a; cut 0 1 a;")), "two h;"),
            new State("all that there may be", RefusalTest::full, "cut 0 14 a;" + times(" ", 289)));
    }

    private static SharedSense full() {
        return told(withProof(times("one a b;", 14) + "two !a;two !b;", times("cut3 14a;", 23) + "cut38 15b;"));
    }

    /** Some worlds told in, and some labour. */
    private static SharedSense told(SharedSense x) {
        int[] in = {0, 3, 64, 127, 128, 255};
        for (int world : in) {
            x.tell(world, 1);
        }
        x.labour(3, 0);
        return x;
    }

    private static List<String> ask(State state, Call call, Asking asking) {
        SharedSense x = state.make();
        if (call != null) {
            due(call.name, call.want, call.body.applyAsLong(x));
        }
        Answers answers = new Answers(x);
        asking.body.accept(answers);
        return answers.all;
    }

    private static void check(State state, List<Call> some) {
        for (Asking asking : ASKINGS) {
            List<String> before = ask(state, null, asking);
            for (Call call : some) {
                calls++;
                List<String> after = ask(state, call, asking);
                due(call.name + " leaves " + asking.name + " alike: " + firstApart(before, after), 1,
                    before.equals(after) ? 1 : 0);
            }
        }
    }

    private static String firstApart(List<String> before, List<String> after) {
        for (int i = 0; i < Math.min(before.size(), after.size()); i++) {
            if (!before.get(i).equals(after.get(i))) {
                return before.get(i) + ", then " + after.get(i);
            }
        }
        return "";
    }

    // ---- what is asked

    private static void askLines(Answers a) {
        a.add("wrong()", a.x.wrong());
        a.add("end()", a.x.end());
        for (int i = 0; i <= 40; i++) {
            for (int what = 0; what <= 5; what++) {
                a.add("line(" + i + ", " + what + ")", a.x.line(i, what));
            }
            a.add("says(0, " + i + ", 3)", a.x.says(0, i, 3));
            a.add("says(1, " + i + ", 1)", a.x.says(1, i, 1));
            a.add("says(2, " + i + ", 2)", a.x.says(2, i, 2));
        }
        a.add("trace()", a.x.trace());
    }

    private static void askSayings(Answers a) {
        for (int n = 0; n <= 7; n++) {
            a.add("side(" + n + ")", a.x.side(n));
            a.add("count(" + n + ")", a.x.count(n));
            a.add("worlds(" + n + ")", a.x.worlds(n));
            a.add("between(" + n + ")", a.x.between(n));
            a.add("looks(" + n + ")", a.x.looks(n));
            a.add("bounds(" + n + ")", a.x.bounds(n));
            a.add("fewest(" + n + ")", a.x.fewest(n));
            a.add("needed(" + n + ")", a.x.needed(n));
            for (int other = 0; other <= 5; other++) {
                a.add("compare(" + n + ", " + other + ")", a.x.compare(n, other));
                a.add("saying(" + n + ", " + other + ")", a.x.saying(n, other));
            }
        }
        a.add("check()", a.x.check());
        a.add("used()", a.x.used());
    }

    private static void askTold(Answers a) {
        for (int world = 0; world < 256; world++) {
            a.add("tell(" + world + ", 0)", a.x.tell(world, 0));
        }
    }

    private static void askTextAsClauses(Answers a) {
        a.add("clauses()", a.x.clauses());
        a.add("count(0)", a.x.count(0));
        a.add("line(0, 0)", a.x.line(0, 0));
        a.add("line(0, 2)", a.x.line(0, 2));
        a.add("line(1, 2)", a.x.line(1, 2));
        a.add("clear()", a.x.clear());
    }

    private static void askTextAsProof(Answers a) {
        a.add("proof()", a.x.proof());
        a.add("count(1)", a.x.count(1));
        a.add("count(2)", a.x.count(2));
        a.add("end()", a.x.end());
        a.add("clear()", a.x.clear());
    }

    // ---- refused calls

    private static List<Call> refused(SharedSense x) {
        List<Call> all = new ArrayList<>();
        int lines = x.count(0) + x.count(1);
        int[] noLine = {-1, lines, lines + 1, 40, LOW, HIGH, NONE};
        refusedTexts(all, x.count(4));
        refusedLines(all, noLine, lines);
        refusedSayings(all, noLine, lines);
        refusedTables(all);
        refusedCounts(all, noLine, lines);
        if (x.end() == NONE) {
            refusedWithoutEnd(all);
        }
        return all;
    }

    private static void add(List<Call> all, String name, long want, ToLongFunction<SharedSense> body) {
        all.add(new Call(name, want, body));
    }

    private static void refusedTexts(List<Call> all, int bytes) {
        for (int n : new int[] {0, -1, 9, LOW, HIGH}) {
            add(all, "type(';', " + n + ")", BAD, x -> x.type(';', n));
        }
        for (int n = 1; n <= 8; n++) {
            int size = n;
            if (bytes + n > 300) {
                add(all, "type(.., " + n + ")", FULL, x -> x.type(0x3B3B3B3B3B3B3B3BL, size));
            }
        }
    }

    private static void refusedLines(List<Call> all, int[] noLine, int lines) {
        for (int i : noLine) {
            add(all, "line(" + i + ", 0)", BAD, x -> x.line(i, 0));
            add(all, "line(" + i + ", 5)", BAD, x -> x.line(i, 5));
            add(all, "holds(" + i + ", 0)", BAD, x -> x.holds(i, 0));
        }
        for (int what : new int[] {-1, 6, LOW, HIGH}) {
            add(all, "line(0, " + what + ")", BAD, x -> x.line(0, what));
            add(all, "line(last, " + what + ")", BAD, x -> x.line(lines - 1, what));
        }
        for (int letter : new int[] {-1, 8, LOW, HIGH}) {
            add(all, "side(" + letter + ")", BAD, x -> x.side(letter));
        }
        for (int world : WORLDS) {
            add(all, "holds(0, " + world + ")", BAD, x -> x.holds(0, world));
            add(all, "holds(last, " + world + ")", BAD, x -> x.holds(lines - 1, world));
        }
        for (int what : new int[] {-1, 3, LOW, HIGH}) {
            add(all, "worlds(" + what + ")", BAD, x -> x.worlds(what));
        }
    }

    private static void refusedSayings(List<Call> all, int[] noLine, int lines) {
        for (int i : noLine) {
            add(all, "says(2, " + i + ", 255)", BAD, x -> x.says(2, i, 255));
        }
        for (int world : WORLDS) {
            add(all, "says(0, last, " + world + ")", BAD, x -> x.says(0, lines - 1, world));
        }
        for (int way : WAYS) {
            add(all, "says(" + way + ", last, 0)", BAD, x -> x.says(way, lines - 1, 0));
            add(all, "saying(" + way + ", 0)", 0, x -> x.saying(way, 0));
            add(all, "between(" + way + ")", BAD, x -> x.between(way));
        }
        for (int part : new int[] {-1, 4, LOW, HIGH}) {
            add(all, "saying(0, " + part + ")", 0, x -> x.saying(0, part));
        }
        for (int which : new int[] {-1, 6, LOW, HIGH}) {
            add(all, "looks(" + which + ")", BAD, x -> x.looks(which));
            for (int other = 0; other <= 5; other++) {
                int second = other;
                add(all, "compare(" + which + ", " + other + ")", BAD, x -> x.compare(which, second));
                add(all, "compare(" + other + ", " + which + ")", BAD, x -> x.compare(second, which));
            }
        }
    }

    private static void refusedTables(List<Call> all) {
        for (int what : new int[] {-1, 2, LOW, HIGH}) {
            add(all, "fewest(" + what + ")", BAD, x -> x.fewest(what));
            add(all, "tell(0, " + what + ")", BAD, x -> x.tell(0, what));
            add(all, "tell(1, " + what + ")", BAD, x -> x.tell(1, what));
            add(all, "needed(" + what + ")", BAD, x -> x.needed(what));
        }
        for (int what : new int[] {-1, 3, LOW, HIGH}) {
            add(all, "bounds(" + what + ")", BAD, x -> x.bounds(what));
        }
        for (int world : WORLDS) {
            add(all, "tell(" + world + ", 0)", BAD, x -> x.tell(world, 0));
            add(all, "tell(" + world + ", 1)", BAD, x -> x.tell(world, 1));
        }
        for (int which : new int[] {-1, 5, LOW, HIGH}) {
            add(all, "copy(" + which + ", 0, 255)", BAD, x -> x.copy(which, 0, 255));
        }
        int[][] ranges = {{-1, 255}, {0, 256}, {0, -1}, {256, 256}, {256, 255}, {1, 0}, {255, 254}, {LOW, 255}, {0, HIGH},
            {LOW, HIGH}, {HIGH, LOW}};
        for (int which = 0; which <= 4; which++) {
            int source = which;
            for (int[] range : ranges) {
                add(all, "copy(" + which + ", " + range[0] + ", " + range[1] + ")", BAD,
                    x -> x.copy(source, range[0], range[1]));
            }
        }
    }

    private static void refusedCounts(List<Call> all, int[] noLine, int lines) {
        for (int i : noLine) {
            for (int kind = 0; kind <= 3; kind++) {
                int each = kind;
                add(all, "labour(" + kind + ", " + i + ")", BAD, x -> x.labour(each, i));
            }
        }
        for (int kind : new int[] {-1, 4, LOW, HIGH}) {
            add(all, "labour(" + kind + ", 0)", BAD, x -> x.labour(kind, 0));
            add(all, "labour(" + kind + ", last)", BAD, x -> x.labour(kind, lines - 1));
        }
        for (int what : new int[] {-1, 6, LOW, HIGH}) {
            add(all, "count(" + what + ")", BAD, x -> x.count(what));
        }
    }

    private static void refusedWithoutEnd(List<Call> all) {
        for (int way = 0; way <= 2; way++) {
            int each = way;
            add(all, "between(" + way + ")", STATE, x -> x.between(each));
            add(all, "looks(" + way + ")", STATE, x -> x.looks(each));
            for (int part = 0; part <= 3; part++) {
                int quarter = part;
                add(all, "saying(" + way + ", " + part + ")", 0, x -> x.saying(each, quarter));
            }
            for (int other = 0; other <= 5; other++) {
                int second = other;
                add(all, "compare(" + way + ", " + other + ")", STATE, x -> x.compare(each, second));
                add(all, "compare(" + other + ", " + way + ")", STATE, x -> x.compare(second, each));
            }
        }
        for (int which = 0; which <= 4; which++) {
            int each = which;
            add(all, "copy(" + which + ", 0, 255)", STATE, x -> x.copy(each, 0, 255));
            add(all, "copy(" + which + ", 255, 255)", STATE, x -> x.copy(each, 255, 255));
        }
        add(all, "used()", STATE, SharedSense::used);
    }

    // ---- texts with a fault

    /** The text is part of the state, so what is asked is what comes of it behind the fault. */
    private static List<Call> faults(State state) {
        List<Call> all = new ArrayList<>();
        int asClauses = state.make().clauses();
        int asProof = state.make().proof();
        if (asClauses <= -10) {
            add(all, "clauses()", asClauses, SharedSense::clauses);
        }
        if (asProof <= -10) {
            add(all, "proof()", asProof, SharedSense::proof);
        }
        // Texts of their own, with a fault behind much that is right; the state's text is typed again.
        String[] bad = {
            "one b;two !b;one;two;one g;x", "two;two;two;two;two;two a a;", times("one;", 16) + "two h;", "two !h", "?",
        };
        String[] badSteps = {
            "cut 0 0 a;cut 0 0 b;cut 0 0 c;cut 99 0 a;", "cut 0 0 a", "cut 0 0 a;cut 0 0 a;;", "?",
            times("cut 0 0 b;", 25),
        };
        for (String text : bad) {
            add(all, "clauses() of '" + text + "'", 1, x -> faultIn(x, text, true, state.text));
        }
        for (String text : badSteps) {
            add(all, "proof() of '" + text + "'", 1, x -> faultIn(x, text, false, state.text));
        }
        return all;
    }

    /** 1: the text had a fault and is there still; the state's own text stands again behind it. */
    private static long faultIn(SharedSense x, String text, boolean asClauses, String own) {
        x.clear();
        type(x, text);
        int answer = asClauses ? x.clauses() : x.proof();
        boolean kept = x.clear() == text.length();
        type(x, own);
        return answer <= -10 && answer >= -310 && kept ? 1 : 0;
    }

    // ---- calls that ask

    private static List<Call> questions(SharedSense x) {
        List<Call> all = new ArrayList<>();
        ask(all, "wrong()", x, SharedSense::wrong);
        ask(all, "end()", x, SharedSense::end);
        ask(all, "check()", x, SharedSense::check);
        ask(all, "used()", x, SharedSense::used);
        ask(all, "trace()", x, SharedSense::trace);
        for (int n = 0; n <= 7; n++) {
            int each = n;
            ask(all, "line(0, " + n + ")", x, y -> y.line(0, each));
            ask(all, "side(" + n + ")", x, y -> y.side(each));
            ask(all, "holds(0, " + n + ")", x, y -> y.holds(0, each));
            ask(all, "worlds(" + n + ")", x, y -> y.worlds(each));
            ask(all, "says(" + n + ", 0, 0)", x, y -> y.says(each, 0, 0));
            ask(all, "saying(" + n + ", 1)", x, y -> y.saying(each, 1));
            ask(all, "between(" + n + ")", x, y -> y.between(each));
            ask(all, "looks(" + n + ")", x, y -> y.looks(each));
            ask(all, "compare(3, " + n + ")", x, y -> y.compare(3, each));
            ask(all, "bounds(" + n + ")", x, y -> y.bounds(each));
            ask(all, "fewest(" + n + ")", x, y -> y.fewest(each));
            ask(all, "needed(" + n + ")", x, y -> y.needed(each));
            ask(all, "count(" + n + ")", x, y -> y.count(each));
        }
        return all;
    }

    private static void ask(List<Call> all, String name, SharedSense x, ToLongFunction<SharedSense> body) {
        add(all, name, body.applyAsLong(x), body);
    }
}
