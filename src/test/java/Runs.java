/** What tests told by hand have in common: objects in a state, answers against those that are due. */
abstract class Runs {
    static final int BAD = SharedSense.BAD;
    static final int STATE = SharedSense.STATE;
    static final int FULL = SharedSense.FULL;
    static final int NONE = SharedSense.NONE;
    static final int LOW = Integer.MIN_VALUE;
    static final int HIGH = Integer.MAX_VALUE;

    // Side one: a, a -> b and b -> d; side two: d -> c, not c, and b or c, which the proof does not use.
    static final String CHAIN = "one a; one !a b; one !b d; two !d c; two !c; two b c;";
    static final String CHAIN_PROOF = "cut 0 1 a; cut 6 2 b; cut 7 3 d; cut 8 4 c;";

    // Letters a and b shared, c of one alone, d of two alone.
    static final String MIXED = "one a c; one b !c; two !a d; two !b; two !d !a b;";
    static final String MIXED_PROOF = "cut 0 1 c; cut 5 3 b; cut 2 4 d; cut 7 3 b; cut 6 8 a;";

    private static String words = "";
    private static int wrong;

    /** The words of the document to which the next answers belong. */
    static void about(String theWords) {
        words = theWords;
    }

    static void due(String call, long want, long got) {
        if (want != got) {
            wrong++;
            System.out.println(words + ": " + call + " answered " + got + ", due is " + want);
        }
    }

    static void endWithWrongs() {
        if (wrong != 0) {
            System.out.println(wrong + " answers are not as due");
            System.exit(1);
        }
    }

    /** Eight bytes a call, so that an object stays far below the calls that it is made for. */
    static void type(SharedSense x, String text) {
        for (int from = 0; from < text.length(); from += 8) {
            int to = Math.min(from + 8, text.length());
            long v = 0;
            for (int i = from; i < to; i++) {
                v = v << 8 | text.charAt(i);
            }
            x.type(v, to - from);
        }
    }

    static SharedSense withClauses(String text) {
        SharedSense x = new SharedSense();
        type(x, text);
        if (x.clauses() < 0) {
            throw new IllegalStateException(text);
        }
        return x;
    }

    static SharedSense withProof(String clauses, String proof) {
        SharedSense x = withClauses(clauses);
        type(x, proof);
        if (x.proof() < 0) {
            throw new IllegalStateException(proof);
        }
        return x;
    }

    /** Types a text, asks clauses() and clears what is left. */
    static int readClauses(SharedSense x, String text) {
        type(x, text);
        int answer = x.clauses();
        due("clear() behind clauses() of '" + text + "'", answer < 0 ? text.length() : 0, x.clear());
        return answer;
    }

    static int readProof(SharedSense x, String text) {
        type(x, text);
        int answer = x.proof();
        due("clear() behind proof() of '" + text + "'", answer < 0 ? text.length() : 0, x.clear());
        return answer;
    }

    static String times(String text, int n) {
        return text.repeat(n);
    }

    static char letter(int k) {
        return (char) ('a' + k);
    }

    /** A clause of side two for each letter: it is not so. */
    static String eachTurned() {
        StringBuilder all = new StringBuilder();
        for (int k = 0; k < 8; k++) {
            all.append("two !").append(letter(k)).append(';');
        }
        return all.toString();
    }

    /** All sixteen clauses in four letters: each is needed. */
    static String eachOfFour() {
        StringBuilder all = new StringBuilder();
        for (int i = 0; i < 16; i++) {
            all.append(i % 2 == 0 ? "one " : "two ");
            for (int k = 0; k < 4; k++) {
                all.append((i >> k & 1) == 0 ? "" : "!").append(letter(k)).append(' ');
            }
            all.append(';');
        }
        return all.toString();
    }
}
