/** The edges of both texts, sentence by sentence of the document's terms and of promises 2 to 7. */
public final class TextEdgeTest extends Runs {
    public static void main(String[] args) {
        lowestBytes();
        bytesBelowZero();
        room();
        clearedText();
        mostClauses();
        endedItems();
        lettersOnce();
        lettersTold();
        sideWords();
        clauseBytes();
        mostSteps();
        linesAhead();
        linesAheadAtMost();
        numbers();
        stepBytes();
        stepOrder();
        blanks();
        longTexts();
        firstFault();
        endedTooEarly();
        emptyTexts();
        wrongLiterals();
        wrongBothWays();
        noLinesBehindWrong();
        firstEmpty();
        clausesEndTheProof();
        proofLeavesTheRest();
        endWithWrongs();
    }

    private static int faultAt(int place) {
        return -10 - place;
    }

    private static int clausesOf(String text) {
        return readClauses(new SharedSense(), text);
    }

    /** proof() of a text on two clauses, a and not a. */
    private static int proofOf(String text) {
        return readProof(withClauses("one a;two !a;"), text);
    }

    // ---- promise 2

    private static void lowestBytes() {
        about("The lowest n (1 .. 8) bytes of v, the highest of them first");
        String text = "one !h; ";
        for (int n = 1; n <= 8; n++) {
            SharedSense x = new SharedSense();
            type(x, text.substring(0, 8 - n));
            long v = 0;
            for (int i = 8 - n; i < 8; i++) {
                v = v << 8 | text.charAt(i);
            }
            // Above the lowest n bytes stands what would be a fault.
            long above = n == 8 ? 0 : 0x7F3F3F3F3F3F3F3FL << 8 * n;
            due("type(.., " + n + ")", 8, x.type(v | above, n));
            due("clauses() of " + n + " bytes at once", 1, x.clauses());
            due("line(0, 1) of " + n + " bytes at once", 128, x.line(0, 1));
            due("line(0, 2) of " + n + " bytes at once", 1, x.line(0, 2));
        }
        SharedSense x = new SharedSense();
        due("type(v, 0)", BAD, x.type(';', 0));
        due("type(v, -1)", BAD, x.type(';', -1));
        due("type(v, 9)", BAD, x.type(';', 9));
        due("type(v, LOW)", BAD, x.type(';', LOW));
        due("type(v, HIGH)", BAD, x.type(';', HIGH));
        due("type(v, 256 + 1)", BAD, x.type(';', 257));
        due("count(4)", 0, x.count(4));
    }

    private static void bytesBelowZero() {
        about("The lowest n bytes of v, of numbers below 0");
        for (int n = 1; n <= 7; n++) {
            SharedSense x = new SharedSense();
            String text = "two g; ".substring(0, n);
            long v = -1;
            for (int i = 0; i < n; i++) {
                v = v << 8 | text.charAt(i);
            }
            due("type(" + v + ", " + n + ")", n, x.type(v, n));
            type(x, "two g; ".substring(n));
            due("clauses() behind type(" + v + ", " + n + ")", 1, x.clauses());
            due("line(0, 0)", 64, x.line(0, 0));
        }
        // All eight: the highest byte is 255 and stands first.
        SharedSense x = new SharedSense();
        due("type(8 bytes)", 8, x.type(0xFF6F6E653B202020L, 8));
        due("clauses(), byte 255 first", faultAt(0), x.clauses());
        due("clear()", 8, x.clear());
        x.type(' ', 1);
        due("type(8 bytes)", 9, x.type(0x806F6E653B202020L, 8));
        due("clauses(), byte 128 second", faultAt(1), x.clauses());
        due("clear()", 9, x.clear());
        due("type(Long.MIN_VALUE, 7)", 7, x.type(Long.MIN_VALUE, 7));
        due("clauses() of zero bytes", faultAt(0), x.clauses());
        due("clear()", 7, x.clear());
        x.type(0x6F6E65L, 3);
        due("type(-1, 1)", 4, x.type(-1L, 1));
        due("clauses(), byte 255 behind a word", faultAt(3), x.clauses());
        due("clear()", 4, x.clear());
        x.type(0x6F6E65L, 3);
        due("type(~0xFF | ';', 1)", 4, x.type(~0xFFL | ';', 1));
        due("clauses(), a stop of a number below 0", 1, x.clauses());
    }

    private static void room() {
        about("Both texts (300 bytes at most); BAD; FULL");
        for (int n = 1; n <= 8; n++) {
            SharedSense x = new SharedSense();
            type(x, times(" ", 301 - n));
            due("type(.., " + n + ") at " + (301 - n), FULL, x.type(0x2020202020202020L, n));
            due("count(4)", 301 - n, x.count(4));
            due("type(.., 9) at " + (301 - n), BAD, x.type(0, 9));
            due("type(.., 0) at " + (301 - n), BAD, x.type(0, 0));
            due("clauses() behind FULL", 0, x.clauses());
            x = new SharedSense();
            type(x, times(" ", 300 - n));
            due("type(.., " + n + ") at " + (300 - n), 300, x.type(0x2020202020202020L, n));
            due("type(.., 1) at 300", FULL, x.type(' ', 1));
            due("type(.., 8) at 300", FULL, x.type(0, 8));
            due("type(.., 9) at 300, BAD ahead of FULL", BAD, x.type(0, 9));
            due("type(.., 0) at 300, BAD ahead of FULL", BAD, x.type(0, 0));
            due("type(.., -1) at 300, BAD ahead of FULL", BAD, x.type(0, -1));
            due("clear()", 300, x.clear());
        }
    }

    // ---- promise 3

    private static void clearedText() {
        about("THE TEXT is empty: how many bytes it had");
        SharedSense x = new SharedSense();
        due("clear() of a new object", 0, x.clear());
        type(x, "?");
        due("clear()", 1, x.clear());
        due("clear() once more", 0, x.clear());
        due("count(4)", 0, x.count(4));
        type(x, times("?", 300));
        due("clear() of 300 bytes", 300, x.clear());
        type(x, "one;");
        due("clauses(), nothing is left of what was cleared", 1, x.clauses());
    }

    // ---- clauses

    private static void mostClauses() {
        about("CLAUSES 0 .. (16 at most); a 17th CLAUSE's");
        for (int n = 0; n <= 16; n++) {
            SharedSense x = new SharedSense();
            due("clauses() of " + n, n, readClauses(x, times("two;", n)));
            due("count(0)", n, x.count(0));
            due("line(n, 2)", BAD, x.line(n, 2));
            due("line(n - 1, 2)", n == 0 ? BAD : 2, x.line(n - 1, 2));
        }
        String sixteen = times("one;", 16);
        due("17 clauses", faultAt(64), clausesOf(sixteen + "two a;"));
        due("18 clauses", faultAt(64), clausesOf(sixteen + "two;two;"));
        due("17th behind blanks", faultAt(67), clausesOf(sixteen + "   two;"));
        due("17th that ends too early", faultAt(64), clausesOf(sixteen + "one"));
        due("17th with a fault", faultAt(64), clausesOf(sixteen + "one ?;"));
        due("17th, a letter", faultAt(64), clausesOf(sixteen + "a;"));
        due("17th, a stop", faultAt(64), clausesOf(sixteen + ";"));
        due("17th, a byte that begins none", faultAt(64), clausesOf(sixteen + "?"));
        due("blanks behind the 16th", 16, clausesOf(sixteen + "   "));
        due("16th with a fault", faultAt(64), clausesOf(times("one;", 15) + "two ?;"));
        due("16th that ends too early", faultAt(63), clausesOf(times("one;", 15) + "one"));
    }

    private static void endedItems() {
        about("ITEMS, each ended by ;");
        due("no stop", faultAt(5), clausesOf("one a"));
        due("no stop between", faultAt(6), clausesOf("one a one b;"));
        due("two stops", faultAt(6), clausesOf("one a;;"));
        due("two stops behind blanks", faultAt(8), clausesOf("one a;  ;"));
        due("a stop alone", faultAt(0), clausesOf(";"));
        due("a stop behind !", faultAt(7), clausesOf("one a !;"));
    }

    private static void lettersOnce() {
        about("its LITERALS (none, too; each LETTER once)");
        SharedSense x = new SharedSense();
        due("none", 2, readClauses(x, "one;two ;"));
        due("line(0, 0)", 0, x.line(0, 0));
        due("line(1, 1)", 0, x.line(1, 1));
        due("all eight", 2, readClauses(x, "one a b c d e f g h;two!a!b!c!d!e!f!g!h;"));
        due("line(0, 0)", 255, x.line(0, 0));
        due("line(0, 1)", 0, x.line(0, 1));
        due("line(1, 0)", 0, x.line(1, 0));
        due("line(1, 1)", 255, x.line(1, 1));
        due("once in each clause", 2, readClauses(x, "one a;one a;"));
        for (int k = 0; k < 8; k++) {
            String each = "" + letter(k);
            due(each + " " + each, faultAt(6), clausesOf("one " + each + " " + each + ";"));
            due(each + " !" + each, faultAt(7), clausesOf("one " + each + " !" + each + ";"));
            due("!" + each + " " + each, faultAt(7), clausesOf("one !" + each + " " + each + ";"));
            due("!" + each + " !" + each, faultAt(8), clausesOf("one !" + each + " !" + each + ";"));
            due("ninth, " + each, faultAt(20), clausesOf("two a b c d e f g h " + each + ";"));
        }
        due("the first told twice", faultAt(8), clausesOf("one a b a b;"));
        due("told twice ahead of another fault", faultAt(6), clausesOf("one a a ?;"));
        due("told twice, far apart", faultAt(13), clausesOf("one b c d !e b;"));
        due("twice in the second clause", faultAt(12), clausesOf("one a;one a a;"));
    }

    private static void lettersTold() {
        about("LETTERS are a .. h (0 .. 7)");
        for (int k = 0; k < 26; k++) {
            SharedSense x = new SharedSense();
            boolean is = k < 8;
            due("one " + letter(k), is ? 1 : faultAt(4), readClauses(x, "one " + letter(k) + ";"));
            due("line(0, 0)", is ? 1 << k : BAD, x.line(0, 0));
            due("one !" + letter(k), is ? 1 : faultAt(5), readClauses(x, "one !" + letter(k) + ";"));
            due("line(0, 1)", is ? 1 << k : BAD, x.line(0, 1));
        }
        SharedSense x = withClauses("one a h;two !h !a;");
        due("side(0)", 3, x.side(0));
        due("side(7)", 3, x.side(7));
        due("side(-1)", BAD, x.side(-1));
        due("side(8)", BAD, x.side(8));
        due("side(32)", BAD, x.side(32));
        due("side('a')", BAD, x.side('a'));
        due("side(LOW)", BAD, x.side(LOW));
        due("side(HIGH)", BAD, x.side(HIGH));
    }

    private static void sideWords() {
        about("SIDE: one or two; a word that is none");
        String[] none = {
            "o", "on", "onea", "ones", "aone", "onetwo", "oneone", "eno", "tw", "twoo", "owt", "three", "xyz",
            "a", "h", "z", "cut", "cuts", "onexxxxone", times("z", 290),
            // Four bytes more than "one", so that a word held in an int would be the same.
            "zzzzone", "aaaatwo",
        };
        for (String word : none) {
            due("clauses() of " + word, faultAt(0), clausesOf(word + " a;"));
            due("clauses() of  " + word, faultAt(2), clausesOf("  " + word + ";"));
            due("proof() of " + word, word.equals("cut") ? 1 : faultAt(0), proofOf(word + " 0 1 a;"));
        }
        due("one inside", faultAt(4), clausesOf("one one;"));
        due("two inside", faultAt(6), clausesOf("two a two;"));
        due("cut inside", faultAt(6), clausesOf("two a cut;"));
        due("proof() of one", faultAt(0), proofOf("one 0 1 a;"));
        due("proof() of two", faultAt(0), proofOf("two 0 1 a;"));
        due("a word for a letter", faultAt(4), clausesOf("one ab;"));
        due("a word for a letter", faultAt(8), proofOf("cut 0 1 aa;"));
    }

    /** Each byte where a clause begins, behind its side, as a literal and behind a literal. */
    private static void clauseBytes() {
        about("a byte that begins none, in CLAUSES");
        for (int b = 0; b < 256; b++) {
            char sign = (char) b;
            boolean word = b >= 'a' && b <= 'z';
            boolean isLetter = b >= 'a' && b <= 'h';
            due("byte " + b + " alone", b == ' ' ? 0 : faultAt(0), clausesOf("" + sign));
            int behindSide = b == ' ' ? 1 : word ? faultAt(0) : b == '!' || b == ';' ? faultAt(4) : faultAt(3);
            due("byte " + b + " behind a side", behindSide, clausesOf("one" + sign + ";"));
            int literal = isLetter || b == ' ' ? 1 : b == '!' || b == ';' ? faultAt(5) : faultAt(4);
            due("byte " + b + " as a literal", literal, clausesOf("one " + sign + ";"));
            due("byte " + b + " behind !", isLetter ? 1 : b == ' ' ? faultAt(6) : faultAt(5),
                clausesOf("one !" + sign + ";"));
            int behindLiteral = b == ' ' ? 1 : word ? faultAt(4) : b == '!' || b == ';' ? faultAt(6) : faultAt(5);
            due("byte " + b + " behind a literal", behindLiteral, clausesOf("two a" + sign + ";"));
            due("byte " + b + " behind a clause", b == ' ' ? 1 : faultAt(4), clausesOf("two;" + sign));
        }
    }

    // ---- the proof

    private static void mostSteps() {
        about("THE PROOF (24 STEPS at most); a 25th STEP's first");
        for (int n = 0; n <= 24; n++) {
            SharedSense x = withClauses("one a;two !a;");
            due("proof() of " + n, n, readProof(x, times("cut 0 1 a;", n)));
            due("count(1)", n, x.count(1));
            due("count(2)", n, x.count(2));
            due("line(1 + n, 2)", n == 0 ? 2 : 0, x.line(1 + n, 2));
            due("line(2 + n, 2)", BAD, x.line(2 + n, 2));
        }
        String most = times("cut 0 1 a;", 24);
        due("25 steps", faultAt(240), proofOf(most + "cut 0 1 a;"));
        due("26 steps", faultAt(240), proofOf(most + "cut 0 1 a;cut 0 1 a;"));
        due("25th behind blanks", faultAt(242), proofOf(most + "  cut 0 1 a;"));
        due("25th that ends too early", faultAt(240), proofOf(most + "cut"));
        due("25th, a stop", faultAt(240), proofOf(most + ";"));
        due("25th, a byte that begins none", faultAt(240), proofOf(most + "?"));
        due("blanks behind the 24th", 24, proofOf(most + "   "));
        due("24th with a fault", faultAt(238), proofOf(times("cut 0 1 a;", 23) + "cut 0 1 i;"));
        due("24th that ends too early", faultAt(239), proofOf(times("cut 0 1 a;", 23) + "cut 0 1 a"));
        due("25 steps, the first of them WRONG", faultAt(240), proofOf("cut 1 0 a;" + most));
    }

    private static void linesAhead() {
        about("a NUMBER of a LINE that is not told ahead");
        SharedSense none = new SharedSense();
        due("no clauses, I is 0", faultAt(4), readProof(none, "cut 0 0 a;"));
        due("one clause, I is 0", 0, readProof(withClauses("one;"), "cut 0 0 a;"));
        due("one clause, I is 1", faultAt(4), readProof(withClauses("one;"), "cut 1 0 a;"));
        due("one clause, J is 1", faultAt(6), readProof(withClauses("one;"), "cut 0 1 a;"));
        due("two clauses, I is 1", 0, proofOf("cut 1 0 a;"));
        due("two clauses, I is 2, its own", faultAt(4), proofOf("cut 2 1 a;"));
        due("two clauses, J is 2, its own", faultAt(6), proofOf("cut 0 2 a;"));
        due("two clauses, I is 3", faultAt(4), proofOf("cut 3 1 a;"));
        due("second step, I is 2", 1, proofOf("cut 0 1 a;cut 2 1 a;"));
        due("second step, J is 2", 1, proofOf("cut 0 1 a;cut 0 2 a;"));
        due("second step, I is 3, its own", faultAt(14), proofOf("cut 0 1 a;cut 3 1 a;"));
        due("second step, J is 3, its own", faultAt(16), proofOf("cut 0 1 a;cut 0 3 a;"));
        due("both not told ahead", faultAt(4), proofOf("cut 7 8 a;"));
        due("not told ahead, then another fault", faultAt(4), proofOf("cut 7 ? a;"));
        due("not told ahead, then the end", faultAt(4), proofOf("cut 7"));
    }

    /** Each number of one byte or two at the last step of the longest proof. */
    private static void linesAheadAtMost() {
        about("LINES are CLAUSES, then what STEPS make, numbered on");
        String clauses = times("one a;", 15) + "two !a;";
        // Short steps, since 24 of them stand in one text.
        String ahead = times("cut0 15a;", 23);
        for (int number = 0; number <= 99; number++) {
            SharedSense x = withClauses(clauses);
            int made = number < 15 ? 24 : 23;
            due("I is " + number + " at line 39", number < 39 ? made : faultAt(23 * 9 + 4),
                readProof(x, ahead + "cut " + number + " 15 a;"));
            x = withClauses(clauses);
            made = number == 15 ? 24 : 23;
            due("J is " + number + " at line 39", number < 39 ? made : faultAt(23 * 9 + 6),
                readProof(x, ahead + "cut 0 " + number + " a;"));
        }
    }

    private static void numbers() {
        about("a NUMBER above 99 or with a 0 ahead of others");
        String[] none = {
            "00", "01", "000", "007", "010", "099", "0100", "100", "101", "256", "999", "1000", "65536", "65537",
            "4294967296", "4294967297", "18446744073709551616", times("9", 250), times("0", 250),
        };
        for (String number : none) {
            due("I is " + number, faultAt(4), proofOf("cut " + number + " 1 a;"));
            due("J is " + number, faultAt(6), proofOf("cut 0 " + number + " a;"));
            due("clauses() of " + number, faultAt(4), clausesOf("one " + number + ";"));
        }
        due("I is 99", faultAt(4), proofOf("cut 99 1 a;"));
        due("I is -0", faultAt(4), proofOf("cut -0 1 a;"));
        due("I is +0", faultAt(4), proofOf("cut +0 1 a;"));
        due("I is 0, J is 1", 1, proofOf("cut 0 1 a;"));
        due("0 1 as 01", faultAt(4), proofOf("cut 01 a;"));
        SharedSense x = withClauses(times("one b;", 9) + "one a;two !a;");
        due("I is 9, J is 10", 1, readProof(x, "cut 9 10 a;"));
        due("line(11, 3)", 9, x.line(11, 3));
        due("line(11, 4)", 10, x.line(11, 4));
    }

    /** Each byte at each place where a step wants something else. */
    private static void stepBytes() {
        about("a byte that begins none, in THE PROOF");
        for (int b = 0; b < 256; b++) {
            char sign = (char) b;
            boolean word = b >= 'a' && b <= 'z';
            boolean blank = b == ' ';
            due("byte " + b + " alone", blank ? 0 : faultAt(0), proofOf("" + sign));
            due("byte " + b + " behind cut", blank ? 1 : word ? faultAt(0) : faultAt(3),
                proofOf("cut" + sign + "0 1 a;"));
            due("byte " + b + " as I", b == '0' ? 1 : b == '1' ? 0 : blank ? faultAt(8) : faultAt(4),
                proofOf("cut " + sign + " 1 a;"));
            due("byte " + b + " as J", b == '1' ? 1 : b == '0' ? 0 : blank ? faultAt(8) : faultAt(6),
                proofOf("cut 0 " + sign + " a;"));
            boolean isLetter = b >= 'a' && b <= 'h';
            due("byte " + b + " as the letter", b == 'a' ? 1 : isLetter ? 0 : blank ? faultAt(9) : faultAt(8),
                proofOf("cut 0 1 " + sign + ";"));
            due("byte " + b + " as the stop", b == ';' ? 1 : word ? faultAt(8) : blank ? faultAt(10) : faultAt(9),
                proofOf("cut 0 1 a" + sign));
            due("byte " + b + " behind a step", blank ? 1 : faultAt(10), proofOf("cut 0 1 a;" + sign));
        }
    }

    private static void stepOrder() {
        about("cut I J LETTER ; each");
        due("cut alone", faultAt(3), proofOf("cut;"));
        due("no numbers", faultAt(4), proofOf("cut a;"));
        due("one number", faultAt(6), proofOf("cut 0 a;"));
        due("three numbers", faultAt(8), proofOf("cut 0 1 1 a;"));
        due("no letter", faultAt(7), proofOf("cut 0 1;"));
        due("a letter with !", faultAt(8), proofOf("cut 0 1 !a;"));
        due("two letters", faultAt(10), proofOf("cut 0 1 a a;"));
        due("no stop", faultAt(10), proofOf("cut 0 1 a cut 0 1 a;"));
        due("two stops", faultAt(10), proofOf("cut 0 1 a;;"));
        due("no cut", faultAt(0), proofOf("0 1 a;"));
        due("! ahead of a number", faultAt(4), proofOf("cut !0 1 a;"));
    }

    // ---- both texts

    private static void blanks() {
        about("blanks (32) between TOKENS");
        due("blanks everywhere", 2, clausesOf("   one   a   !   b   ;   two   ;   "));
        due("as few as there can be", 3, clausesOf("one!a!b;two a!c;two;"));
        due("a tabulator", faultAt(3), clausesOf("one\ta;"));
        due("a new line", faultAt(6), clausesOf("one a;\ntwo b;"));
        due("a carriage's return", faultAt(6), clausesOf("one a;\rtwo b;"));
        due("a zero", faultAt(0), clausesOf("\0one a;"));
        due("byte 160", faultAt(3), clausesOf("one\u00a0a;"));
        due("a blank inside a word", faultAt(0), clausesOf("o ne a;"));
        due("blanks everywhere", 1, proofOf("   cut   0   1   a   ;   "));
        due("as few as there can be", 2, proofOf("cut0 1a;cut0 1a;"));
        due("a tabulator", faultAt(5), proofOf("cut 0\t1 a;"));
        due("a new line", faultAt(10), proofOf("cut 0 1 a;\n"));
    }

    private static void longTexts() {
        about("(300 bytes at most)");
        String end = "one !h;";
        due("300 bytes, blanks ahead", 1, clausesOf(times(" ", 300 - end.length()) + end));
        due("300 bytes, blanks behind", 1, clausesOf(end + times(" ", 300 - end.length())));
        due("300 blanks", 0, clausesOf(times(" ", 300)));
        due("300 blanks", 0, proofOf(times(" ", 300)));
        due("fault at the last byte", faultAt(299), clausesOf(times(" ", 299) + "?"));
        due("fault at the last byte", faultAt(299), proofOf(times(" ", 299) + ";"));
        due("300 bytes that end too early", faultAt(300), clausesOf(times(" ", 296) + "one "));
        due("300 bytes that end too early", faultAt(300), proofOf(times(" ", 297) + "cut"));
        due("a word of 300 bytes", faultAt(0), clausesOf(times("a", 300)));
        due("a number of 300 bytes", faultAt(0), proofOf(times("1", 300)));
        due("300 bytes of steps", 24, proofOf(times("cut 0  1 a ;", 23) + "cut 0       1       a  ;"));
        due("what an earlier, longer text had is not read", faultAt(3), behindLonger("one"));
        due("what an earlier, longer text had is not read", faultAt(5), behindLonger("one a"));
        due("what an earlier, longer text had is not read", 1, behindLonger("one;"));
    }

    private static int behindLonger(String text) {
        SharedSense x = new SharedSense();
        due("a longer text", 3, readClauses(x, "one a;one b;one c;"));
        type(x, "one ;;;;;;;;;;;;");
        x.clear();
        return readClauses(x, text);
    }

    private static void firstFault() {
        about("the first TOKEN that can't stand there");
        due("a byte, then a word", faultAt(4), clausesOf("one ? xyz;"));
        due("a word, then a byte", faultAt(4), clausesOf("one xyz ?;"));
        due("a number, then a stop", faultAt(4), clausesOf("one 7 ;;"));
        due("a letter twice, then the end", faultAt(6), clausesOf("one a a"));
        due("in the second clause", faultAt(11), clausesOf("one a; two ?; ;"));
        due("in the second step", faultAt(17), proofOf("cut 0 1 a; cut 0 9 i"));
        due("of a long word the first byte", faultAt(6), clausesOf("one a bcdefgh;"));
        due("a fault behind a WRONG step", faultAt(11), proofOf("cut 1 0 a; ?"));
        due("words run on into bytes that begin none", faultAt(5), clausesOf("one a?b;"));
    }

    private static void endedTooEarly() {
        about("the text's length, if it ends too early");
        String text = "one a !b; two !a;";
        for (int n = 0; n <= text.length(); n++) {
            String part = text.substring(0, n);
            // "o", "on", "t" and "tw" are words that are none.
            int want = n == 0 ? 0 : n < 3 ? faultAt(0) : n == 9 || n == 10 ? 1 : n == 11 || n == 12 ? faultAt(10)
                : n == 17 ? 2 : faultAt(n);
            due("clauses() of '" + part + "'", want, clausesOf(part));
        }
        text = "cut 0 1 a; cut 0 1 a;";
        for (int n = 0; n <= text.length(); n++) {
            String part = text.substring(0, n);
            int want = n == 0 ? 0 : n < 3 ? faultAt(0) : n == 10 || n == 11 ? 1 : n == 12 || n == 13 ? faultAt(11)
                : n == 21 ? 2 : faultAt(n);
            due("proof() of '" + part + "'", want, proofOf(part));
        }
        due("blanks count", faultAt(8), clausesOf("one a   "));
        due("blanks count", faultAt(6), proofOf("cut   "));
        due("behind !", faultAt(5), clausesOf("one !"));
        due("behind ! and blanks", faultAt(7), clausesOf("one !  "));
    }

    private static void emptyTexts() {
        about("THE TEXT of no bytes");
        SharedSense x = new SharedSense();
        due("clauses() of a new object", 0, x.clauses());
        due("proof() without CLAUSES", 0, x.proof());
        due("end()", NONE, x.end());
        due("wrong()", NONE, x.wrong());
        x = withProof(CHAIN, CHAIN_PROOF);
        due("clauses() of no bytes", 0, x.clauses());
        due("count(0)", 0, x.count(0));
        due("count(1)", 0, x.count(1));
        due("worlds(2)", 256, x.worlds(2));
        due("line(0, 0)", BAD, x.line(0, 0));
        due("needed(0)", NONE, x.needed(0));
        due("side(0)", 0, x.side(0));
        x = withProof(CHAIN, CHAIN_PROOF);
        due("proof() of no bytes", 0, x.proof());
        due("count(0)", 6, x.count(0));
        due("count(2)", 0, x.count(2));
        due("end()", NONE, x.end());
    }

    // ---- wrong steps and the end

    private static void wrongLiterals() {
        about("WRONG: the first STEP whose LINES have not the LITERALS as they must");
        String clauses = "one a b;two !a c;two b;one !c;";
        String[] wrongs = {
            "cut 1 0 a;", // the other way about
            "cut 2 1 a;", // I has not the letter
            "cut 1 1 a;", // I has it with !
            "cut 0 2 a;", // J has not the letter
            "cut 0 0 a;", // J has it without !
            "cut 0 1 b;", // J has not this letter
            "cut 0 1 h;", // neither has it
            "cut 3 3 c;", // a line with itself
        };
        for (String each : wrongs) {
            SharedSense x = withClauses(clauses);
            due("proof() of " + each, 0, readProof(x, each));
            due("wrong() of " + each, 0, x.wrong());
            due("count(1) of " + each, 0, x.count(1));
            due("count(2) of " + each, 1, x.count(2));
            x = withClauses(clauses);
            due("proof() of " + each + " third", 2, readProof(x, "cut 0 1 a;cut 4 3 c;" + each));
            due("wrong() of " + each + " third", 2, x.wrong());
            due("count(2) of " + each + " third", 3, x.count(2));
        }
        SharedSense x = withProof(clauses, "cut 0 1 a;");
        due("wrong() of a right one", NONE, x.wrong());
        x = withProof("one a;two !a;", times("cut 0 1 a;", 23) + "cut 1 0 a;");
        due("wrong(), the last of 24", 23, x.wrong());
        due("count(1)", 23, x.count(1));
    }

    private static void wrongBothWays() {
        about("WRONG: .. whose new LINE would have a LETTER both ways");
        for (int k = 1; k < 8; k++) {
            String b = "" + letter(k);
            SharedSense x = withProof("one a " + b + ";two !a !" + b + ";", "cut 0 1 a;");
            due("wrong(), " + b + " of I", 0, x.wrong());
            x = withProof("one a !" + b + ";two !a " + b + ";", "cut 0 1 a;");
            due("wrong(), " + b + " of J", 0, x.wrong());
            due("line(2, 0)", BAD, x.line(2, 0));
            x = withProof("one a " + b + ";two !a " + b + ";", "cut 0 1 a;");
            due("wrong(), " + b + " of both, the same way", NONE, x.wrong());
            due("line(2, 0)", 1 << k, x.line(2, 0));
            x = withProof("one a !" + b + ";two !a !" + b + ";", "cut 0 1 a;");
            due("wrong(), !" + b + " of both, the same way", NONE, x.wrong());
            due("line(2, 1)", 1 << k, x.line(2, 1));
        }
        SharedSense x = withProof("one a b c d e f g h;two !a b c d e f g h;", "cut 0 1 a;");
        due("wrong(), all other letters alike", NONE, x.wrong());
        due("line(2, 0)", 254, x.line(2, 0));
    }

    private static void noLinesBehindWrong() {
        about("it and what stands behind it make no LINES");
        SharedSense x = withClauses("one a;two !a;");
        due("a right one behind a wrong one", 0, readProof(x, "cut 1 0 a;cut 0 1 a;"));
        due("wrong()", 0, x.wrong());
        due("count(1)", 0, x.count(1));
        due("count(2)", 2, x.count(2));
        due("end()", NONE, x.end());
        due("line(2, 0)", BAD, x.line(2, 0));
        due("holds(2, 0)", BAD, x.holds(2, 0));
        due("says(0, 2, 0)", BAD, x.says(0, 2, 0));
        due("labour(0, 2)", BAD, x.labour(0, 2));
        due("used()", STATE, x.used());
        due("two wrong ones", 1, readProof(x, "cut 0 1 a;cut 1 0 a;cut 1 1 a;cut 0 1 a;"));
        due("wrong(), the first", 1, x.wrong());
        due("count(2)", 4, x.count(2));
        due("end()", 2, x.end());
        due("line(2, 2)", 0, x.line(2, 2));
        due("line(3, 2)", BAD, x.line(3, 2));
        due("a right proof again", 1, readProof(x, "cut 0 1 a;"));
        due("wrong() of it", NONE, x.wrong());
        // Told ahead, though it makes no line: no fault.
        due("the wrong one's number", 0, readProof(x, "cut 1 0 a;cut 2 1 a;"));
        due("wrong()", 0, x.wrong());
    }

    private static void firstEmpty() {
        about("THE END: the first LINE that is empty (a CLAUSE, too)");
        due("no line", NONE, new SharedSense().end());
        due("none empty", NONE, withClauses("one a;two !a;").end());
        due("clause 0", 0, withClauses("one;").end());
        due("clause 0 of two", 0, withClauses("two;one;").end());
        due("clause 15", 15, withClauses(times("one a;", 15) + "two;").end());
        due("a step's", 2, withProof("one a;two !a;", "cut 0 1 a;").end());
        due("the first of two steps'", 3, withProof("one a;two !a;one b;", "cut 0 1 a;cut 0 1 a;").end());
        due("a step's, not the first", 4, withProof("one a b;two !a;two !b;", "cut 0 1 a;cut 3 2 b;").end());
        due("a clause ahead of a step's", 0, withProof("two;one a;two !a;", "cut 1 2 a;").end());
        due("line 39", 39, withProof(times("one a b;", 14) + "two !a;two !b;",
            times("cut 3 14 a;", 23) + "cut 38 15 b;").end());
        SharedSense x = withProof("one a;two !a;", "cut 0 1 a;");
        x.proof();
        due("none, once the proof has no steps", NONE, x.end());
        x = withProof("two;one a;", "cut 1 1 a;");
        due("a clause, though the proof is wrong", 0, x.end());
        due("used()", 1, x.used());
    }

    // ---- promises 4 and 5

    private static void clausesEndTheProof() {
        about("THE TEXT becomes CLAUSES (no PROOF then), and is empty then");
        SharedSense x = withProof(CHAIN, CHAIN_PROOF);
        x.tell(0, 1);
        x.tell(255, 1);
        x.labour(3, 9);
        type(x, CHAIN);
        due("clauses(), the same ones", 6, x.clauses());
        due("count(4)", 0, x.count(4));
        due("count(1)", 0, x.count(1));
        due("count(2)", 0, x.count(2));
        due("count(5), TOLD: none, once CLAUSES are told", 0, x.count(5));
        due("tell(255, 0)", 0, x.tell(255, 0));
        due("wrong()", NONE, x.wrong());
        due("end()", NONE, x.end());
        due("line(6, 0)", BAD, x.line(6, 0));
        due("trace()", 1011, x.trace());
        due("type()", 1, x.type(' ', 1));
        x = withProof("one a;two !a;", "cut 1 0 a;");
        due("wrong()", 0, x.wrong());
        due("clauses()", 1, readClauses(x, "one b;"));
        due("wrong(), no PROOF", NONE, x.wrong());
        due("count(2), no PROOF", 0, x.count(2));
        x = withProof("one a;two !a;", "cut 0 1 a;");
        due("more CLAUSES than there were LINES", 4, readClauses(x, "one b;one c;one d;two e;"));
        due("line(2, 2)", 1, x.line(2, 2));
        due("line(2, 3)", NONE, x.line(2, 3));
        due("end(), a CLAUSE's", 1, readClauses(x, "two;") + x.end());
    }

    private static void proofLeavesTheRest() {
        about("THE TEXT becomes THE PROOF, and is empty then");
        SharedSense x = withClauses(CHAIN);
        x.tell(7, 1);
        x.labour(2, 0);
        type(x, CHAIN_PROOF);
        due("proof()", 4, x.proof());
        due("count(4)", 0, x.count(4));
        due("count(0)", 6, x.count(0));
        due("count(5)", 1, x.count(5));
        due("tell(7, 1)", 1, x.tell(7, 1));
        due("trace()", 101, x.trace());
        type(x, "cut 0 1 a;");
        due("proof(), a shorter one", 1, x.proof());
        due("count(1)", 1, x.count(1));
        due("line(6, 0)", 2, x.line(6, 0));
        due("line(7, 0)", BAD, x.line(7, 0));
        due("end()", NONE, x.end());
        type(x, "cut 1 2 b;cut 0 6 a;");
        due("proof(), another one", 2, x.proof());
        due("line(6, 0)", 8, x.line(6, 0));
        due("line(6, 1)", 1, x.line(6, 1));
        due("line(7, 0)", 8, x.line(7, 0));
        due("line(7, 3)", 0, x.line(7, 3));
        due("line(7, 4)", 6, x.line(7, 4));
        type(x, "cut 1 0 a;");
        due("proof(), a WRONG one", 0, x.proof());
        due("count(4)", 0, x.count(4));
        due("line(6, 0)", BAD, x.line(6, 0));
        // The number of a line of the last proof: not told ahead in this one.
        readProof(x, CHAIN_PROOF);
        due("proof(), a line of the last proof", faultAt(4), readProof(x, "cut 6 2 b;"));
        due("end(), kept", 9, x.end());
    }
}
