/** Runs told by hand, promise by promise, with the answers that the document asks for. */
public final class PromiseTest extends Runs {
    public static void main(String[] args) {
        newObject();
        typing();
        clearing();
        clauseTexts();
        proofTexts();
        wrongSteps();
        ends();
        linesOf();
        sidesOf();
        holding();
        worldsOf();
        saysOf();
        sayingOf();
        betweenOf();
        looksOf();
        compareOf();
        boundsOf();
        fewestOf();
        telling();
        copying();
        checking();
        usedOf();
        neededOf();
        labours();
        counts();
        traces();
        exampleOfReadme();
        endWithWrongs();
    }

    private static void newObject() {
        about("promise 1");
        SharedSense x = new SharedSense();
        for (int what = 0; what <= 5; what++) {
            due("count(" + what + ")", 0, x.count(what));
        }
        due("wrong()", NONE, x.wrong());
        due("end()", NONE, x.end());
        due("line(0, 0)", BAD, x.line(0, 0));
        due("trace()", 0, x.trace());
        due("worlds(2)", 256, x.worlds(2));
        due("bounds(0)", 256, x.bounds(0));
        due("bounds(1)", 0, x.bounds(1));
        due("bounds(2)", 0, x.bounds(2));
        due("needed(0)", NONE, x.needed(0));
        due("fewest(0)", NONE, x.fewest(0));
        due("used()", STATE, x.used());
        due("check()", 2, x.check());
        for (int letter = 0; letter < 8; letter++) {
            due("side(" + letter + ")", 0, x.side(letter));
        }
    }

    private static void typing() {
        about("promise 2");
        SharedSense x = new SharedSense();
        due("type(0, 0)", BAD, x.type(0, 0));
        due("type(0, 9)", BAD, x.type(0, 9));
        due("type(0, LOW)", BAD, x.type(0, LOW));
        due("type(0, HIGH)", BAD, x.type(0, HIGH));
        // "xyzone a": of these eight bytes the lowest five are "one a".
        due("type lowest", 5, x.type(0x78797A6F6E652061L, 5));
        due("type(';', 1)", 6, x.type(';', 1));
        due("clauses()", 1, x.clauses());
        due("line(0, 0)", 1, x.line(0, 0));
        for (int i = 1; i <= 37; i++) {
            due("type(8 bytes)", 8 * i, x.type(0x2020202020202020L, 8));
        }
        due("type(5 bytes) at 296", FULL, x.type(0, 5));
        due("type(9 bytes) at 296", BAD, x.type(0, 9));
        due("count(4)", 296, x.count(4));
        due("type(4 bytes) at 296", 300, x.type(0x20202020L, 4));
        due("type(1 byte) at 300", FULL, x.type(' ', 1));
        due("clauses()", 0, x.clauses());
        due("type(1 byte) once more", 1, x.type(' ', 1));
    }

    private static void clearing() {
        about("promise 3");
        SharedSense x = withClauses("one a;");
        due("clear() of none", 0, x.clear());
        type(x, "two b");
        due("clear()", 5, x.clear());
        due("count(4)", 0, x.count(4));
        due("count(0)", 1, x.count(0));
    }

    private static void clauseTexts() {
        about("promise 4");
        SharedSense x = new SharedSense();
        due("blanks", 0, readClauses(x, "   "));
        due("no blanks", 2, readClauses(x, "one!a b;two;"));
        due("many blanks", 2, readClauses(x, "  one  !  a   b ;  two  ; "));
        due("line(0, 0)", 2, x.line(0, 0));
        due("line(0, 1)", 1, x.line(0, 1));
        due("line(0, 2)", 1, x.line(0, 2));
        due("line(1, 2)", 2, x.line(1, 2));
        due("all letters", 1, readClauses(x, "one a b c d !e !f !g !h;"));
        due("17 clauses", -10 - 64, readClauses(x, times("one;", 17)));
        due("count(0), kept", 1, x.count(0));
        due("16 clauses", 16, readClauses(x, times("one;", 16)));
        due("16 clauses and a bad sign", -10 - 65, readClauses(x, times("two;", 16) + " ?"));
        due("no side", -10, readClauses(x, "a;"));
        due("stop first", -10, readClauses(x, ";"));
        due("cut", -11, readClauses(x, " cut;"));
        due("number", -14, readClauses(x, "one 1;"));
        due("word", -14, readClauses(x, "one ab;"));
        due("letter i", -16, readClauses(x, "one a i;"));
        due("letter twice", -16, readClauses(x, "one a a;"));
        due("letter twice with !", -17, readClauses(x, "one a !a;"));
        due("letter twice, once with !", -17, readClauses(x, "one !a a;"));
        due("ninth literal", -31, readClauses(x, "one a b c d e f g h !a;"));
        due("! twice", -15, readClauses(x, "one !!a;"));
        due("! and stop", -15, readClauses(x, "one !;"));
        due("side inside", -16, readClauses(x, "one a two b;"));
        due("capital", -14, readClauses(x, "one A;"));
        due("high byte", -14, readClauses(x, "one \u00e1;"));
        due("zero byte", -13, readClauses(x, "one\0;"));
        due("tabulator", -13, readClauses(x, "one\t;"));
        due("joined words", -10, readClauses(x, "onea;"));
        due("word of three", -10, readClauses(x, "abc;"));
        due("word with z", -14, readClauses(x, "one az;"));
        due("word of four", -10, readClauses(x, "aone;"));
        due("too early", -15, readClauses(x, "one a"));
        due("too early behind blanks", -17, readClauses(x, "one a  "));
        due("too early behind !", -15, readClauses(x, "one !"));
        due("half a word", -16, readClauses(x, "one a;on"));
        due("first of two faults", -14, readClauses(x, "one 1 ?;"));
        due("count(0), kept", 16, x.count(0));
        clausesAnew();
    }

    private static void clausesAnew() {
        SharedSense x = withProof(CHAIN, CHAIN_PROOF);
        x.tell(7, 1);
        due("fault", -10, readClauses(x, "?"));
        due("count(5), kept", 1, x.count(5));
        due("count(1), kept", 4, x.count(1));
        due("end(), kept", 9, x.end());
        due("clauses anew", 1, readClauses(x, "two b;"));
        due("count(5)", 0, x.count(5));
        due("count(1)", 0, x.count(1));
        due("count(2)", 0, x.count(2));
        due("end()", NONE, x.end());
        due("line(1, 0)", BAD, x.line(1, 0));
    }

    private static void proofTexts() {
        about("promise 5");
        SharedSense x = new SharedSense();
        due("none of none", 0, readProof(x, ""));
        due("no line", -14, readProof(x, "cut 0 0 a;"));
        x = withClauses(CHAIN);
        due("proof", 4, readProof(x, CHAIN_PROOF));
        due("empty proof", 0, readProof(x, " "));
        due("count(2)", 0, x.count(2));
        due("end()", NONE, x.end());
        due("no blanks", 1, readProof(x, "cut0 1a;"));
        due("own line", -14, readProof(x, "cut 6 1 a;"));
        due("own line second", -16, readProof(x, "cut 0 6 a;"));
        due("line ahead", 1, readProof(x, "cut 0 1 a; cut 5 6 a;"));
        due("line behind", -10 - 15, readProof(x, "cut 0 1 a; cut 7 0 a;"));
        due("99", -14, readProof(x, "cut 99 1 a;"));
        due("100", -14, readProof(x, "cut 100 1 a;"));
        due("many digits", -14, readProof(x, "cut 4294967296 1 a;"));
        due("word of three", -10, readProof(x, "abc 0 1 a;"));
        due("word of four", -10, readProof(x, "acut 0 1 a;"));
        due("90", -14, readProof(x, "cut 90 1 a;"));
        due("0 ahead", -16, readProof(x, "cut 0 01 a;"));
        due("00", -14, readProof(x, "cut 00 1 a;"));
        due("no number", -14, readProof(x, "cut a 1 a;"));
        due("no letter", -18, readProof(x, "cut 0 1 1;"));
        due("letter i", -18, readProof(x, "cut 0 1 i;"));
        due("letter with !", -18, readProof(x, "cut 0 1 !a;"));
        due("no stop", -20, readProof(x, "cut 0 1 a cut 0 1 a;"));
        due("side", -10, readProof(x, "one 0 1 a;"));
        due("too early", -19, readProof(x, "cut 0 1 a"));
        due("too early", -13, readProof(x, "cut"));
        due("count(2), kept", 2, x.count(2));
        due("24 steps", 24, readProof(x, times("cut 0 1 a;", 24)));
        due("25 steps", -10 - 240, readProof(x, times("cut 0 1 a;", 25)));
        due("count(1), kept", 24, x.count(1));
        due("24 steps of 16 clauses", 24, readProof(withClauses("one a;" + times("two !a;", 15)),
            times("cut 0 15 a;", 23) + "cut 0 9 a;"));
        due("sixteenth line's number", 2, readProof(withClauses(times("one a;", 14) + "two !a;"),
            "cut 13 14 a;cut 0 14 a;"));
    }

    private static void wrongSteps() {
        about("promise 6");
        SharedSense x = withClauses("one a b; one !a !b; two a; two !b;");
        due("wrong() of no proof", NONE, x.wrong());
        due("right", 1, readProof(x, "cut 0 3 b;"));
        due("wrong()", NONE, x.wrong());
        due("letter both ways", 0, readProof(x, "cut 0 1 a;"));
        due("wrong()", 0, x.wrong());
        due("not in I", 1, readProof(x, "cut 0 3 b; cut 3 1 a; cut 2 1 a;"));
        due("wrong()", 1, x.wrong());
        due("count(2)", 3, x.count(2));
        due("line(5, 0)", BAD, x.line(5, 0));
        due("line with no such letter", 0, readProof(x, "cut 0 3 h;"));
        due("not in J", 0, readProof(x, "cut 0 2 a;"));
        due("wrong()", 0, x.wrong());
        due("the other way about", 0, readProof(x, "cut 3 0 b;"));
        due("wrong()", 0, x.wrong());
        due("a line with itself", 0, readProof(x, "cut 0 0 a;"));
        due("told, though wrong", 1, readProof(x, "cut 0 3 b; cut 0 1 a; cut 5 4 a;"));
        due("told, though wrong", -10 - 26, readProof(x, "cut 0 3 b; cut 0 1 a; cut 6 5 a;"));
        due("clauses anew", 1, readClauses(x, "one a;"));
        due("wrong()", NONE, x.wrong());
    }

    private static void ends() {
        about("promise 7");
        due("none", NONE, withClauses(CHAIN).end());
        due("last line", 9, withProof(CHAIN, CHAIN_PROOF).end());
        due("a clause", 1, withClauses("one a; two; one;").end());
        due("a clause ahead of a line", 2, withProof("one a; two !a; two;", "cut 0 1 a;").end());
        due("first of two lines", 2, withProof("one a; two !a;", "cut 0 1 a; cut 0 1 a;").end());
        due("behind a wrong step", NONE, withProof("one a; two !a;", "cut 1 0 a; cut 0 1 a;").end());
    }

    private static void linesOf() {
        about("promise 8");
        SharedSense x = withProof("one a b !c; two !a d !e;", "cut 0 1 a;");
        due("line(0, 0)", 3, x.line(0, 0));
        due("line(0, 1)", 4, x.line(0, 1));
        due("line(1, 0)", 8, x.line(1, 0));
        due("line(1, 1)", 17, x.line(1, 1));
        due("line(1, 2)", 2, x.line(1, 2));
        due("line(1, 4)", NONE, x.line(1, 4));
        due("line(1, 5)", NONE, x.line(1, 5));
        due("line(2, 0)", 10, x.line(2, 0));
        due("line(2, 1)", 20, x.line(2, 1));
        due("line(2, 2)", 0, x.line(2, 2));
        due("line(2, 3)", 0, x.line(2, 3));
        due("line(2, 4)", 1, x.line(2, 4));
        due("line(2, 5)", 0, x.line(2, 5));
        due("line(2, 6)", BAD, x.line(2, 6));
        due("line(2, -1)", BAD, x.line(2, -1));
        due("line(3, 0)", BAD, x.line(3, 0));
        due("line(-1, 0)", BAD, x.line(-1, 0));
        due("line(LOW, HIGH)", BAD, x.line(LOW, HIGH));
        due("line(NONE, 0)", BAD, x.line(NONE, 0));
        readClauses(x, "one;two h;two !h;one h;");
        due("line(2, 1), once a step's", 128, x.line(2, 1));
        due("line(2, 2), once a step's", 2, x.line(2, 2));
        for (int what = 3; what <= 5; what++) {
            due("line(2, " + what + "), once a step's", NONE, x.line(2, what));
        }
        readClauses(x, "one h;two !h;");
        readProof(x, "cut 0 1 h;");
        due("line(2, 2), once a clause", 0, x.line(2, 2));
        fullHouse();
    }

    /** As many clauses and steps as there may be. */
    private static void fullHouse() {
        SharedSense x = withProof(times("one a b;", 15) + "two !a !c;", times("cut 14 15 a;", 24));
        due("line(39, 0)", 2, x.line(39, 0));
        due("line(39, 1)", 4, x.line(39, 1));
        due("line(39, 3)", 14, x.line(39, 3));
        due("line(39, 4)", 15, x.line(39, 4));
        due("line(40, 0)", BAD, x.line(40, 0));
        due("holds(39, 2)", 1, x.holds(39, 2));
        due("says(1, 39, 1)", 1, x.says(1, 39, 1));
        due("labour(0, 39)", 2, x.labour(0, 39));
        x = withProof(times("one a;", 15) + "two !a;", times("cut 14 15 a;", 24));
        due("end() of 40 lines", 16, x.end());
        x = withProof(times("one a b;", 14) + "two !a;two !b;",
            times("cut 3 14 a;", 23).replaceFirst("cut 3", "cut 5") + "cut 38 15 b;");
        due("end() is the last of 40 lines", 39, x.end());
        due("used() of 40 lines", 1 << 3 | 1 << 14 | 1 << 15, x.used());
    }

    private static void sidesOf() {
        about("promise 9");
        SharedSense x = withClauses(MIXED);
        int[] want = {3, 3, 1, 2, 0, 0, 0, 0};
        for (int letter = 0; letter < 8; letter++) {
            due("side(" + letter + ")", want[letter], x.side(letter));
        }
        readClauses(x, "one h; two h; two b;");
        due("side(0), clauses anew", 0, x.side(0));
        due("side(1), clauses anew", 2, x.side(1));
        due("side(7), clauses anew", 3, x.side(7));
        due("side(-1)", BAD, x.side(-1));
        due("side(8)", BAD, x.side(8));
        due("side(HIGH)", BAD, x.side(HIGH));
        due("side(LOW)", BAD, x.side(LOW));
    }

    private static void holding() {
        about("promise 10");
        SharedSense x = withProof("one a !h; two h; two;", "cut 1 0 h;");
        due("holds(0, 0)", 1, x.holds(0, 0));
        due("holds(0, 128)", 0, x.holds(0, 128));
        due("holds(0, 129)", 1, x.holds(0, 129));
        due("holds(1, 127)", 0, x.holds(1, 127));
        due("holds(1, 255)", 1, x.holds(1, 255));
        due("holds(2, 255)", 0, x.holds(2, 255));
        due("holds(3, 1)", 1, x.holds(3, 1));
        due("holds(3, 254)", 0, x.holds(3, 254));
        due("holds(4, 0)", BAD, x.holds(4, 0));
        due("holds(-1, 0)", BAD, x.holds(-1, 0));
        due("holds(0, 256)", BAD, x.holds(0, 256));
        due("holds(0, -1)", BAD, x.holds(0, -1));
    }

    private static void worldsOf() {
        about("promise 11");
        SharedSense x = withClauses("one a b; two !a c; two h;");
        due("worlds(0)", 192, x.worlds(0));
        due("worlds(1)", 96, x.worlds(1));
        due("worlds(2)", 64, x.worlds(2));
        due("worlds(3)", BAD, x.worlds(3));
        due("worlds(-1)", BAD, x.worlds(-1));
        readClauses(x, "one;");
        due("worlds(0) of the empty one", 0, x.worlds(0));
        due("worlds(1) of no clause", 256, x.worlds(1));
        readClauses(x, "two a;");
        due("worlds(0), clauses anew", 256, x.worlds(0));
    }

    private static void saysOf() {
        about("promise 12");
        SharedSense x = withProof(MIXED, MIXED_PROOF);
        // Clause 0 of side one, "a c": of its letters a alone is shared.
        due("says(0, 0, 1)", 1, x.says(0, 0, 1));
        due("says(0, 0, 4)", 0, x.says(0, 0, 4));
        due("says(1, 0, 1)", 0, x.says(1, 0, 1));
        due("says(2, 0, 1)", 0, x.says(2, 0, 1));
        // Clause 2 of side two, "!a d".
        due("says(0, 2, 0)", 1, x.says(0, 2, 0));
        due("says(1, 2, 0)", 0, x.says(1, 2, 0));
        due("says(1, 2, 1)", 1, x.says(1, 2, 1));
        due("says(2, 2, 0)", 1, x.says(2, 2, 0));
        // Line 5 cuts 0 and 1 at c, of one alone: a or b; none; none.
        due("says(0, 5, 2)", 1, x.says(0, 5, 2));
        due("says(0, 5, 0)", 0, x.says(0, 5, 0));
        due("says(1, 5, 3)", 0, x.says(1, 5, 3));
        // Line 6 cuts 5 and 3 at b, shared: a or b; b; b.
        due("says(0, 6, 1)", 1, x.says(0, 6, 1));
        due("says(1, 6, 1)", 0, x.says(1, 6, 1));
        due("says(1, 6, 2)", 1, x.says(1, 6, 2));
        due("says(2, 6, 1)", 0, x.says(2, 6, 1));
        due("says(2, 6, 2)", 1, x.says(2, 6, 2));
        // Line 7 cuts 2 and 4 at d, of two alone: all; a and not b; all.
        due("says(0, 7, 0)", 1, x.says(0, 7, 0));
        due("says(1, 7, 1)", 1, x.says(1, 7, 1));
        due("says(1, 7, 3)", 0, x.says(1, 7, 3));
        due("says(2, 7, 0)", 1, x.says(2, 7, 0));
        waysApart();
        due("says(-1, 0, 0)", BAD, x.says(-1, 0, 0));
        due("says(3, 0, 0)", BAD, x.says(3, 0, 0));
        due("says(0, 10, 0)", BAD, x.says(0, 10, 0));
        due("says(0, -1, 0)", BAD, x.says(0, -1, 0));
        due("says(0, 0, 256)", BAD, x.says(0, 0, 256));
        due("says(0, 0, -1)", BAD, x.says(0, 0, -1));
    }

    /** A cut at a shared letter, where each way says something else. */
    private static void waysApart() {
        SharedSense x = withProof("one a b; two !a c; two b; one c;", "cut 0 1 a;");
        // Way 0: a or b, and all. Way 1: none, or a and not c. Way 2: where a all, elsewhere none.
        int[][] want = {{0, 1, 1, 1, 0, 1, 1, 1}, {0, 1, 0, 1, 0, 0, 0, 0}, {0, 1, 0, 1, 0, 1, 0, 1}};
        for (int way = 0; way < 3; way++) {
            for (int world = 0; world < 8; world++) {
                due("says(" + way + ", 4, " + world + ")", want[way][world], x.says(way, 4, world));
            }
        }
        readClauses(x, "two a; one a; one b; two !a; one b !a;");
        for (int i = 0; i < 5; i++) {
            boolean two = i == 0 || i == 3;
            due("says(2, " + i + ", 0), clauses anew", two ? 1 : 0, x.says(2, i, 0));
            due("says(1, " + i + ", 1), clauses anew", i == 3 ? 1 : 0, x.says(1, i, 1));
        }
    }

    private static void sayingOf() {
        about("promise 13");
        // By each way a or b: of two alone remain not a and not b.
        SharedSense x = withProof(MIXED, MIXED_PROOF);
        for (int way = 0; way < 3; way++) {
            for (int part = 0; part < 4; part++) {
                due("saying(" + way + ", " + part + ")", 0xEEEEEEEEEEEEEEEEL, x.saying(way, part));
            }
        }
        due("saying(3, 0)", 0, x.saying(3, 0));
        due("saying(-1, 0)", 0, x.saying(-1, 0));
        due("saying(0, 4)", 0, x.saying(0, 4));
        due("saying(0, -1)", 0, x.saying(0, -1));
        due("saying(0, 0) of no END", 0, withClauses(MIXED).saying(0, 0));
        // Ways that differ: g and h shared; strongest g and h, weakest g or h.
        x = withProof("one g; one h; two !g !h;", "cut 0 2 g; cut 1 3 h;");
        due("way 0, part 1", 0, x.saying(0, 1));
        due("way 0, part 3", -1, x.saying(0, 3));
        due("way 1, part 3", -1, x.saying(1, 3));
        due("way 2, part 2", 0, x.saying(2, 2));
        x = withClauses("two; one a;");
        due("way 0 of an empty clause of two", -1, x.saying(0, 0));
        due("way 1 of an empty clause of two", -1, x.saying(1, 0));
        due("way 2 of an empty clause of two", -1, x.saying(2, 0));
    }

    private static void betweenOf() {
        about("promise 14");
        SharedSense x = withProof(MIXED, MIXED_PROOF);
        for (int way = 0; way < 3; way++) {
            due("between(" + way + ")", 0, x.between(way));
        }
        due("between(3)", BAD, x.between(3));
        due("between(-1)", BAD, x.between(-1));
        x = withClauses(MIXED);
        due("between(0) of no END", STATE, x.between(0));
        due("between(3) of no END", BAD, x.between(3));
    }

    private static void looksOf() {
        about("promise 15");
        SharedSense x = withProof(MIXED, MIXED_PROOF);
        due("looks(0)", 3, x.looks(0));
        due("looks(1)", 3, x.looks(1));
        due("looks(2)", 3, x.looks(2));
        due("looks(3)", 3, x.looks(3));
        due("looks(4)", 2, withClauses("one a b; two !b; two a;").looks(4) & 2);
        due("looks(5) of none", 0, x.looks(5));
        x.tell(0, 1);
        due("looks(5) of one", 255, x.looks(5));
        x.tell(64, 1);
        due("looks(5) of two", 255 - 64, x.looks(5));
        x.tell(128, 1);
        x.tell(192, 1);
        due("looks(5) of four", 63, x.looks(5));
        due("looks(6)", BAD, x.looks(6));
        due("looks(-1)", BAD, x.looks(-1));
        x = withClauses(MIXED);
        due("looks(2) of no END", STATE, x.looks(2));
        due("looks(3) of no END", 3, x.looks(3));
        due("looks(5) of no END", 0, x.looks(5));
    }

    private static void compareOf() {
        about("promise 16");
        SharedSense x = withClauses("one a; one b; two !a; two !b;");
        due("compare(3, 4)", 1, x.compare(3, 4));
        due("compare(4, 3)", 2, x.compare(4, 3));
        due("compare(4, 4)", 0, x.compare(4, 4));
        due("compare(5, 3), none within", 1, x.compare(5, 3));
        due("compare(3, 5), none within", 2, x.compare(3, 5));
        x.tell(0, 1);
        due("compare(5, 3)", 3, x.compare(5, 3));
        due("compare(0, 3) of no END", STATE, x.compare(0, 3));
        due("compare(3, 0) of no END", STATE, x.compare(3, 0));
        due("compare(0, 6) of no END", BAD, x.compare(0, 6));
        due("compare(-1, 0)", BAD, x.compare(-1, 0));
        due("compare(0, -1)", BAD, x.compare(0, -1));
        due("compare(6, 0)", BAD, x.compare(6, 0));
        readProof(x, "cut 0 2 a;");
        // By ways 0 and 1 the saying is a.
        due("compare(0, 1)", 0, x.compare(0, 1));
        due("compare(3, 0)", 1, x.compare(3, 0));
        due("compare(4, 0)", 2, x.compare(4, 0));
        readProof(x, "cut 1 3 b;");
        x.copy(0, 0, 255);
        readProof(x, "cut 0 2 a;");
        due("compare(5, 0)", 3, x.compare(5, 0));
    }

    private static void boundsOf() {
        about("promise 17");
        SharedSense x = withClauses("one a; one b; two !a; two !b; two c;");
        due("bounds(0)", 64, x.bounds(0));
        due("bounds(1)", 192, x.bounds(1));
        due("bounds(2)", 2, x.bounds(2));
        due("bounds(3)", BAD, x.bounds(3));
        due("bounds(-1)", BAD, x.bounds(-1));
        x = withClauses("one; two;");
        due("bounds(0), no worlds", 0, x.bounds(0));
        due("bounds(1), no worlds", 256, x.bounds(1));
        due("bounds(2), no letter", 1, x.bounds(2));
        x = withClauses("one a c; two !a d;");
        due("bounds(0), no clash", 256, x.bounds(0));
        due("bounds(1), no clash", 0, x.bounds(1));
        due("bounds(2), no clash", 0, x.bounds(2));
        x = withClauses("one a b c d e f g h; one a; one !a; two a b c d e f g h; two h; two !h;");
        due("bounds(2), all letters", 256, x.bounds(2));
    }

    private static void fewestOf() {
        about("promise 18");
        SharedSense x = withClauses("one a; one b; two !a; two !b;");
        due("fewest(0)", 1, x.fewest(0));
        due("fewest(1), the least", 1, x.fewest(1));
        due("fewest(2)", BAD, x.fewest(2));
        due("fewest(-1)", BAD, x.fewest(-1));
        x = withClauses("one a; one b; one c; two !c; two a b;");
        due("fewest(1), not the first", 4, x.fewest(1));
        x = withClauses("one b c; two !b; two !c; two !a; one a d; one a !d e; one !e a !d;");
        due("fewest(0), a alone", 1, x.fewest(0));
        due("fewest(0), two", 2, withClauses("one b c; two !b; two !c; one d; two !e;").fewest(0));
        due("fewest(1), two", 6, withClauses("one b c; two !b; two !c; one d; two !e;").fewest(1));
        due("fewest(0), all", 8, withClauses("one a b c d e f g h;" + eachTurned()).fewest(0));
        due("fewest(1), all", 255, withClauses("one a b c d e f g h;" + eachTurned()).fewest(1));
        due("fewest(0), none", NONE, withClauses("one a; two a;").fewest(0));
        due("fewest(1), none", NONE, withClauses("one a; two a;").fewest(1));
        due("fewest(0), no letter", 0, withClauses("one a; two;").fewest(0));
        due("fewest(1), no letter", 0, withClauses("one a; two;").fewest(1));
        readClauses(x, "one a; two a;");
        due("fewest(0), clauses anew", NONE, x.fewest(0));
    }

    private static void telling() {
        about("promise 19");
        SharedSense x = new SharedSense();
        for (int world = 0; world < 256; world += 51) {
            due("tell(" + world + ", 0)", 0, x.tell(world, 0));
            due("tell(" + world + ", 1)", 0, x.tell(world, 1));
            due("tell(" + world + ", 1)", 1, x.tell(world, 1));
        }
        due("count(5)", 6, x.count(5));
        due("tell(255, 0)", 1, x.tell(255, 0));
        due("count(5)", 5, x.count(5));
        due("tell(256, 0)", BAD, x.tell(256, 0));
        due("tell(-1, 0)", BAD, x.tell(-1, 0));
        due("tell(0, 2)", BAD, x.tell(0, 2));
        due("tell(0, -1)", BAD, x.tell(0, -1));
        due("count(5), kept", 5, x.count(5));
    }

    private static void copying() {
        about("promise 20");
        SharedSense x = withProof(MIXED, MIXED_PROOF);
        due("copy(0, 0, 3)", 3, x.copy(0, 0, 3));
        due("tell(0, 1)", 0, x.tell(0, 1));
        due("copy(1, 0, 7)", 4, x.copy(1, 0, 7));
        due("copy(1, 0, 7)", 0, x.copy(1, 0, 7));
        due("copy(3, 255, 255)", 1, x.copy(3, 255, 255));
        due("copy(4, 0, 255)", 192 - 7, x.copy(4, 0, 255));
        due("check()", 0, x.check());
        due("copy(5, 0, 255)", BAD, x.copy(5, 0, 255));
        due("copy(-1, 0, 255)", BAD, x.copy(-1, 0, 255));
        due("copy(0, -1, 255)", BAD, x.copy(0, -1, 255));
        due("copy(0, 0, 256)", BAD, x.copy(0, 0, 256));
        due("copy(0, 256, 256)", BAD, x.copy(0, 256, 256));
        due("copy(0, 1, 0)", BAD, x.copy(0, 1, 0));
        x = withClauses(MIXED);
        for (int which = 0; which <= 4; which++) {
            due("copy(" + which + ", 0, 255) of no END", STATE, x.copy(which, 0, 255));
        }
        due("copy(0, 1, 0) of no END", BAD, x.copy(0, 1, 0));
        due("copy(5, 0, 0) of no END", BAD, x.copy(5, 0, 0));
        due("count(5)", 0, x.count(5));
    }

    private static void checking() {
        about("promise 21");
        SharedSense x = withProof(MIXED, MIXED_PROOF);
        due("check() of none", 2, x.check());
        x.copy(0, 0, 255);
        due("check()", 0, x.check());
        x.tell(0, 1);
        due("check(), not shared", 1, x.check());
        for (int world = 0; world < 256; world += 4) {
            x.tell(world, 1);
        }
        due("check() of all", 3, x.check());
        for (int world = 0; world < 256; world += 4) {
            x.tell(world + 3, 0);
        }
        due("check(), 2 ahead of 3", 2, x.check());
        readClauses(x, "one;two;");
        due("check(), no letters", 0, x.check());
        x.tell(9, 1);
        due("check(), no letters", 1, x.check());
    }

    private static void usedOf() {
        about("promise 22");
        due("used()", 0b011111, withProof(CHAIN, CHAIN_PROOF).used());
        due("used() of no END", STATE, withClauses(CHAIN).used());
        due("used() of a clause", 0b100, withClauses("one a; two b; one; two;").used());
        due("used(), a step beside", 0b1010, withProof("one a; one b; two !a; two !b;",
            "cut 1 3 b; cut 0 2 a;").used());
        due("used(), a step beside", 0b1010, withProof("one a; one b; two !a c; two !b; two !c;",
            "cut 0 2 a; cut 1 3 b;").used());
        due("used(), sixteen", 1 << 15 | 1, withProof("one a;" + times("one b;", 14) + "two !a;",
            "cut 0 15 a;").used());
    }

    private static void neededOf() {
        about("promise 23");
        SharedSense x = withProof(CHAIN, CHAIN_PROOF);
        due("needed(0), fewer than used", 4, x.needed(0));
        due("needed(1), fewer than used", 0b111100, x.needed(1));
        due("needed(2)", BAD, x.needed(2));
        due("needed(-1)", BAD, x.needed(-1));
        due("needed(0), no clash", NONE, withClauses("one a; two b;").needed(0));
        due("needed(1), no clash", NONE, withClauses("one a; two b;").needed(1));
        due("needed(1), one side", 0b011, withClauses("one a; one !a; two b;").needed(1));
        due("needed(1), the fewest", 0b11000,
            withClauses("one a; two !a b; two !b; one h; two !h;").needed(1));
        due("needed(1), the least", 0b0101, withClauses("one a; one b; two !a; two !b;").needed(1));
        due("needed(1), the least", 0b0110, withClauses("one b; one a; two !a; two !b;").needed(1));
        due("needed(1), the empty one", 0b100, withClauses("one a; two !a; two; one;").needed(1));
        due("needed(0), sixteen", 16, withClauses(eachOfFour()).needed(0));
        due("needed(1), sixteen", 65535, withClauses(eachOfFour()).needed(1));
        readClauses(x, "one a;");
        due("needed(0), clauses anew", NONE, x.needed(0));
        readClauses(x, "one !a; two g; two h;");
        due("needed(0), world 192 alone", NONE, x.needed(0));
        readClauses(x, "two h; two g; one !g; one !h g;");
        due("needed(1), letters g and h", 0b0110, x.needed(1));
        due("needed(0), world 0 alone", NONE, withClauses("one !a;").needed(0));
        due("needed(1), worlds above 63", 0b1111,
            withClauses("one !a h; one a g h; two a !g h; two !h;").needed(1));
    }

    private static void labours() {
        about("promise 24");
        SharedSense x = withProof(MIXED, MIXED_PROOF);
        due("labour(0, 4)", 3, x.labour(0, 4));
        due("labour(1, 4)", 3 + 256, x.labour(1, 4));
        due("labour(2, 4)", 7, x.labour(2, 4));
        due("labour(3, 4)", 129, x.labour(3, 4));
        due("labour(0, 9)", 0, x.labour(0, 9));
        due("labour(1, 9)", 192, x.labour(1, 9));
        due("labour(2, 9)", 1, x.labour(2, 9));
        due("labour(3, 9)", 96, x.labour(3, 9));
        due("labour(4, 0)", BAD, x.labour(4, 0));
        due("labour(-1, 0)", BAD, x.labour(-1, 0));
        due("labour(0, 10)", BAD, x.labour(0, 10));
        due("labour(0, -1)", BAD, x.labour(0, -1));
        due("labour(1, 0) of no END", 2 + 128, withClauses(MIXED).labour(1, 0));
    }

    private static void counts() {
        about("promise 25");
        SharedSense x = withProof(MIXED, MIXED_PROOF + "cut 0 0 h; cut 0 1 c;");
        x.tell(3, 1);
        type(x, "abc");
        int[] want = {5, 5, 7, 2, 3, 1};
        for (int what = 0; what <= 5; what++) {
            due("count(" + what + ")", want[what], x.count(what));
        }
        due("count(6)", BAD, x.count(6));
        due("count(-1)", BAD, x.count(-1));
    }

    private static void traces() {
        about("promise 26");
        SharedSense x = withClauses("one a;");
        int[] weights = {1, 11, 101, 1011};
        long sum = 0;
        for (int kind = 0; kind < 4; kind++) {
            for (int n = 0; n <= kind; n++) {
                x.labour(kind, 0);
                sum += weights[kind];
                due("trace()", sum, x.trace());
            }
        }
        x.labour(4, 0);
        x.labour(3, 1);
        due("trace(), refused calls", sum, x.trace());
        readClauses(x, "two;");
        due("trace(), clauses anew", sum, x.trace());
    }

    private static void exampleOfReadme() {
        about("README.md");
        SharedSense x = new SharedSense();
        for (char c : "one a; one !a b; two !b c; two !c;".toCharArray()) {
            x.type(c, 1);
        }
        due("clauses()", 4, x.clauses());
        for (char c : "cut 0 1 a; cut 4 2 b; cut 5 3 c;".toCharArray()) {
            x.type(c, 1);
        }
        due("proof()", 3, x.proof());
        due("end()", 6, x.end());
        due("saying(0, 0)", 0xCCCCCCCCCCCCCCCCL, x.saying(0, 0));
        due("between(0)", 0, x.between(0));
        due("fewest(1)", 2, x.fewest(1));
        due("used()", 15, x.used());
    }
}
