/** The edges of lines, worlds and sayings, sentence by sentence of the terms and of promises 8 to 26. */
public final class SenseEdgeTest extends Runs {
    public static void main(String[] args) {
        bitsOfWorlds();
        emptyNowhere();
        literalsAtLeastOne();
        partsOfLines();
        sidesOfLetters();
        worldsOfSides();
        sayingsOfClauses();
        sayingsOfCuts();
        partsOfSayings();
        checkOfWays();
        looksAtEdges();
        compareAtEdges();
        boundsAtEdges();
        boundsLookAtShared();
        freeSayings();
        fewestLeast();
        fewestNone();
        tellAtEdges();
        copyAtEdges();
        copyWithoutEnd();
        firstOfChecks();
        usedByTheEnd();
        neededLeast();
        neededNone();
        labourAtEdges();
        countAtEdges();
        traceOfBodies();
        manyCalls();
        manyObjects();
        endWithWrongs();
    }

    private static String allPlain() {
        return "a b c d e f g h";
    }

    private static String allTurned() {
        return "!a!b!c!d!e!f!g!h";
    }

    private static void tellAll(SharedSense x, boolean in) {
        for (int world = 0; world < 256; world++) {
            x.tell(world, in ? 1 : 0);
        }
    }

    // ---- worlds

    private static void bitsOfWorlds() {
        about("WORLDS 0 .. 255: bit i of a WORLD is LETTER i");
        for (int k = 0; k < 8; k++) {
            SharedSense x = withClauses("one " + letter(k) + ";two !" + letter(k) + ";");
            due("holds(0, bit) of " + letter(k), 1, x.holds(0, 1 << k));
            due("holds(0, all others) of " + letter(k), 0, x.holds(0, 255 ^ 1 << k));
            due("holds(1, bit) of !" + letter(k), 0, x.holds(1, 1 << k));
            due("holds(1, all others) of !" + letter(k), 1, x.holds(1, 255 ^ 1 << k));
        }
        SharedSense x = withClauses("one;");
        due("holds(0, 0)", 0, x.holds(0, 0));
        due("holds(0, 255)", 0, x.holds(0, 255));
        due("holds(0, -1)", BAD, x.holds(0, -1));
        due("holds(0, 256)", BAD, x.holds(0, 256));
        due("holds(0, LOW)", BAD, x.holds(0, LOW));
        due("holds(0, HIGH)", BAD, x.holds(0, HIGH));
        due("holds(-1, 0)", BAD, x.holds(-1, 0));
        due("holds(1, 0)", BAD, x.holds(1, 0));
        due("holds(0, 0) of no clauses", BAD, new SharedSense().holds(0, 0));
    }

    private static void emptyNowhere() {
        about("it HOLDS, if one of them at least is so (the empty one nowhere)");
        SharedSense x = withProof("one;one a;two !a;", "cut 1 2 a;");
        for (int world = 0; world < 256; world++) {
            due("holds(0, " + world + ") of an empty clause", 0, x.holds(0, world));
        }
        x = withProof("one a;two !a;", "cut 0 1 a;");
        for (int world = 0; world < 256; world++) {
            due("holds(2, " + world + ") of a step's empty line", 0, x.holds(2, world));
        }
    }

    private static void literalsAtLeastOne() {
        about("it HOLDS, if one of them at least is so");
        SharedSense x = withClauses("one " + allPlain() + ";two" + allTurned() + ";");
        for (int world = 0; world < 256; world++) {
            due("holds(0, " + world + ")", world == 0 ? 0 : 1, x.holds(0, world));
            due("holds(1, " + world + ")", world == 255 ? 0 : 1, x.holds(1, world));
        }
        x = withClauses("one b !g;");
        for (int world = 0; world < 256; world++) {
            int is = (world & 2) != 0 || (world & 64) == 0 ? 1 : 0;
            due("holds(0, " + world + ") of b !g", is, x.holds(0, world));
        }
    }

    // ---- promises 8 to 11

    private static void partsOfLines() {
        about("Of a LINE: .. 2 its side (1, 2; 0: a STEP's), 3, 4 I, J (NONE: a CLAUSE), 5 the LETTER (NONE)");
        SharedSense x = withProof("two;one h b;two !h !c;", "cut 1 2 h;");
        int[][] want = {
            {0, 0, 2, NONE, NONE, NONE}, {130, 0, 1, NONE, NONE, NONE}, {0, 132, 2, NONE, NONE, NONE},
            {2, 4, 0, 1, 2, 7},
        };
        for (int i = 0; i < 4; i++) {
            for (int what = 0; what <= 5; what++) {
                due("line(" + i + ", " + what + ")", want[i][what], x.line(i, what));
            }
            due("line(" + i + ", -1)", BAD, x.line(i, -1));
            due("line(" + i + ", 6)", BAD, x.line(i, 6));
            due("line(" + i + ", LOW)", BAD, x.line(i, LOW));
            due("line(" + i + ", HIGH)", BAD, x.line(i, HIGH));
        }
        for (int what = -1; what <= 6; what++) {
            due("line(4, " + what + ")", BAD, x.line(4, what));
            due("line(-1, " + what + ")", BAD, x.line(-1, what));
            due("line(40, " + what + ")", BAD, x.line(40, what));
            due("line(LOW, " + what + ")", BAD, x.line(LOW, what));
            due("line(HIGH, " + what + ")", BAD, x.line(HIGH, what));
            due("line(NONE, " + what + ")", BAD, x.line(NONE, what));
        }
    }

    private static void sidesOfLetters() {
        about("A LETTER is of a SIDE, if a CLAUSE of that SIDE has it: SHARED, if it is of both");
        for (int k = 0; k < 8; k++) {
            char c = letter(k);
            due("side of no clause", 0, withClauses("one;two;").side(k));
            due("side of one, plain", 1, withClauses("one " + c + ";").side(k));
            due("side of one, with !", 1, withClauses("one !" + c + ";two;").side(k));
            due("side of two, plain", 2, withClauses("two " + c + ";").side(k));
            due("side of two, with !", 2, withClauses("one;two !" + c + ";").side(k));
            due("side of both", 3, withClauses("one " + c + ";two !" + c + ";").side(k));
            due("side of both, both with !", 3, withClauses("two !" + c + ";one !" + c + ";").side(k));
            due("side of one twice", 1, withClauses("one " + c + ";one !" + c + ";").side(k));
        }
        SharedSense x = withProof("one a;one !a;two b;", "cut 0 1 a;");
        due("side(0), cut away", 1, x.side(0));
        due("count(3)", 0, x.count(3));
        due("count(3), all letters", 8, withClauses("one " + allPlain() + ";two" + allTurned() + ";").count(3));
    }

    private static void worldsOfSides() {
        about("ONE, TWO: WORLDS in which all CLAUSES of that SIDE HOLD");
        dueWorlds(new SharedSense(), 256, 256, 256);
        dueWorlds(withClauses("one;"), 0, 256, 0);
        dueWorlds(withClauses("two;"), 256, 0, 0);
        dueWorlds(withClauses("one;two;"), 0, 0, 0);
        dueWorlds(withClauses("one a;"), 128, 256, 128);
        dueWorlds(withClauses("two !h;"), 256, 128, 128);
        dueWorlds(withClauses("one " + allPlain() + ";two" + allTurned() + ";"), 255, 255, 254);
        dueWorlds(withClauses("one a;two !a;"), 128, 128, 0);
        dueWorlds(withClauses("one a;one !a;"), 0, 256, 0);
        dueWorlds(withClauses("one a;" + eachTurned()), 128, 1, 0);
        dueWorlds(withClauses("one !a;" + eachTurned()), 128, 1, 1);
        SharedSense x = withClauses("one;");
        due("worlds(-1)", BAD, x.worlds(-1));
        due("worlds(3)", BAD, x.worlds(3));
        due("worlds(LOW)", BAD, x.worlds(LOW));
        due("worlds(HIGH)", BAD, x.worlds(HIGH));
    }

    private static void dueWorlds(SharedSense x, int one, int two, int both) {
        due("worlds(0)", one, x.worlds(0));
        due("worlds(1)", two, x.worlds(1));
        due("worlds(2)", both, x.worlds(2));
    }

    // ---- promises 12 to 14

    /** says() of a line by a way in every world, by the set that it should be. */
    private static void dueSays(String clauses, String proof, int way, int i, WorldTest want) {
        SharedSense x = withProof(clauses, proof);
        for (int world = 0; world < 256; world++) {
            due("says(" + way + ", " + i + ", " + world + ") of '" + clauses + proof + "'", want.has(world) ? 1 : 0,
                x.says(way, i, world));
        }
    }

    private interface WorldTest {
        boolean has(int world);
    }

    private static boolean so(int world, int k) {
        return (world >> k & 1) != 0;
    }

    private static void sayingsOfClauses() {
        about("CLAUSES of side one: WAY 0 .. its SHARED LITERALS; CLAUSES of side two");
        String none = "one a b;two c d;";
        dueSays(none, "", 0, 0, w -> false);
        dueSays(none, "", 1, 0, w -> false);
        dueSays(none, "", 2, 0, w -> false);
        dueSays(none, "", 0, 1, w -> true);
        dueSays(none, "", 1, 1, w -> true);
        dueSays(none, "", 2, 1, w -> true);
        String some = "one a !h c;two h !a d;";
        dueSays(some, "", 0, 0, w -> so(w, 0) || !so(w, 7));
        dueSays(some, "", 1, 0, w -> false);
        dueSays(some, "", 2, 0, w -> false);
        dueSays(some, "", 0, 1, w -> true);
        dueSays(some, "", 1, 1, w -> !so(w, 7) && so(w, 0));
        dueSays(some, "", 2, 1, w -> true);
        String empty = "one;two;one g;two g;";
        dueSays(empty, "", 0, 0, w -> false);
        dueSays(empty, "", 1, 0, w -> false);
        dueSays(empty, "", 0, 1, w -> true);
        dueSays(empty, "", 1, 1, w -> true);
        SharedSense x = withClauses(some);
        due("says(-1, 0, 0)", BAD, x.says(-1, 0, 0));
        due("says(3, 0, 0)", BAD, x.says(3, 0, 0));
        due("says(0, -1, 0)", BAD, x.says(0, -1, 0));
        due("says(0, 2, 0)", BAD, x.says(0, 2, 0));
        due("says(0, 0, -1)", BAD, x.says(0, 0, -1));
        due("says(0, 0, 256)", BAD, x.says(0, 0, 256));
        due("says(LOW, HIGH, LOW)", BAD, x.says(LOW, HIGH, LOW));
        due("says(0, 0, 0) of no clauses", BAD, new SharedSense().says(0, 0, 0));
    }

    private static void sayingsOfCuts() {
        about("A cut at a LETTER with SAYINGS p of LINE I, q of LINE J");
        // At c, of one alone: p is a, q is b; by ways 1 and 2 none.
        String one = "one c a;one !c b;two a;two b;";
        dueSays(one, "cut 0 1 c;", 0, 4, w -> so(w, 0) || so(w, 1));
        dueSays(one, "cut 0 1 c;", 1, 4, w -> false);
        dueSays(one, "cut 0 1 c;", 2, 4, w -> false);
        // At c, of two alone: by way 1 p is not a, q is not b; by ways 0 and 2 all.
        String two = "two c a;two !c b;one a;one b;";
        dueSays(two, "cut 0 1 c;", 0, 4, w -> true);
        dueSays(two, "cut 0 1 c;", 1, 4, w -> !so(w, 0) && !so(w, 1));
        dueSays(two, "cut 0 1 c;", 2, 4, w -> true);
        // At h, shared, the letter in the clause of one: by way 2 where h is so q, all.
        String both = "one h a;two !h b;two a;one b;";
        dueSays(both, "cut 0 1 h;", 0, 4, w -> so(w, 7) || so(w, 0));
        dueSays(both, "cut 0 1 h;", 1, 4, w -> so(w, 7) && !so(w, 1));
        dueSays(both, "cut 0 1 h;", 2, 4, w -> so(w, 7));
        // At h, shared, the letter in the clause of two: by way 2 where h is so q, none.
        String turned = "two h a;one !h b;one a;two b;";
        dueSays(turned, "cut 0 1 h;", 0, 4, w -> !so(w, 7) || so(w, 1));
        dueSays(turned, "cut 0 1 h;", 1, 4, w -> !so(w, 7) && !so(w, 0));
        dueSays(turned, "cut 0 1 h;", 2, 4, w -> !so(w, 7));
        // At h, shared, both of one: those of both; of p or q.
        dueSays("one h a;one !h b;two a;two b;two h;", "cut 0 1 h;", 0, 5,
            w -> (so(w, 7) || so(w, 0)) && (!so(w, 7) || so(w, 1)));
        dueSays("two h a;two !h b;one a;one b;one h;", "cut 0 1 h;", 1, 5,
            w -> !so(w, 7) && !so(w, 0) || so(w, 7) && !so(w, 1));
    }

    private static void partsOfSayings() {
        about("WORLDS 64 part .. 64 part and 63 of it, as bits. 0: BAD, or there is no END");
        // All worlds, so that 0 tells that the call was refused.
        SharedSense all = withClauses("two;");
        for (int way = 0; way < 3; way++) {
            for (int part = 0; part < 4; part++) {
                due("saying(" + way + ", " + part + ")", -1, all.saying(way, part));
            }
            due("saying(" + way + ", -1)", 0, all.saying(way, -1));
            due("saying(" + way + ", 4)", 0, all.saying(way, 4));
            due("saying(" + way + ", LOW)", 0, all.saying(way, LOW));
            due("saying(" + way + ", HIGH)", 0, all.saying(way, HIGH));
        }
        for (int part = -1; part <= 4; part++) {
            due("saying(-1, " + part + ")", 0, all.saying(-1, part));
            due("saying(3, " + part + ")", 0, all.saying(3, part));
            due("saying(LOW, " + part + ")", 0, all.saying(LOW, part));
            due("saying(HIGH, " + part + ")", 0, all.saying(HIGH, part));
        }
        // The first clause of two says all worlds, but it is no END.
        SharedSense none = withClauses("two a;one b;");
        due("says(0, 0, 0)", 1, none.says(0, 0, 0));
        for (int part = 0; part < 4; part++) {
            due("saying(0, " + part + ") of no END", 0, none.saying(0, part));
        }
        due("saying(3, 0) of no END", 0, none.saying(3, 0));
        due("saying(0, 0) of a new object", 0, new SharedSense().saying(0, 0));
        long[] low = {
            0xAAAAAAAAAAAAAAAAL, 0xCCCCCCCCCCCCCCCCL, 0xF0F0F0F0F0F0F0F0L, 0xFF00FF00FF00FF00L, 0xFFFF0000FFFF0000L,
            0xFFFFFFFF00000000L,
        };
        for (int k = 0; k < 8; k++) {
            SharedSense x = withProof("one " + letter(k) + ";two !" + letter(k) + ";", "cut 0 1 " + letter(k) + ";");
            for (int part = 0; part < 4; part++) {
                long want = k < 6 ? low[k] : (part >> (k - 6) & 1) != 0 ? -1 : 0;
                for (int way = 0; way < 3; way++) {
                    due("saying(" + way + ", " + part + ") of " + letter(k), want, x.saying(way, part));
                }
            }
        }
    }

    private static void checkOfWays() {
        about("CHECK of THE SAYING of a WAY. BAD; STATE: there is no END");
        String[][] ends = {
            {"one;", ""}, {"two;", ""}, {"one;two;", ""}, {"two;one;", ""}, {CHAIN, CHAIN_PROOF}, {MIXED, MIXED_PROOF},
            {"one a;one !a;two b;", "cut 0 1 a;"}, {"two a;two !a;one a;", "cut 0 1 a;"},
        };
        for (String[] each : ends) {
            SharedSense x = withProof(each[0], each[1]);
            for (int way = 0; way < 3; way++) {
                due("between(" + way + ") of '" + each[0] + each[1] + "'", 0, x.between(way));
            }
            due("between(-1)", BAD, x.between(-1));
            due("between(3)", BAD, x.between(3));
        }
        SharedSense[] none = {new SharedSense(), withClauses(MIXED), withProof("one a;two !a;", "cut 1 0 a;")};
        for (SharedSense x : none) {
            for (int way = 0; way < 3; way++) {
                due("between(" + way + ") of no END", STATE, x.between(way));
            }
            due("between(-1) of no END, BAD ahead of STATE", BAD, x.between(-1));
            due("between(3) of no END, BAD ahead of STATE", BAD, x.between(3));
            due("between(LOW) of no END, BAD ahead of STATE", BAD, x.between(LOW));
            due("between(HIGH) of no END, BAD ahead of STATE", BAD, x.between(HIGH));
        }
    }

    // ---- promises 15 and 16

    private static void looksAtEdges() {
        about("LOOKS of a SAYING: LETTERS on which it hangs");
        SharedSense x = new SharedSense();
        due("looks(5) of none", 0, x.looks(5));
        tellAll(x, true);
        due("looks(5) of all", 0, x.looks(5));
        x.tell(255, 0);
        due("looks(5) of all but 255", 255, x.looks(5));
        x = new SharedSense();
        x.tell(0, 1);
        due("looks(5) of 0 alone", 255, x.looks(5));
        for (int k = 0; k < 8; k++) {
            x = new SharedSense();
            for (int world = 0; world < 256; world++) {
                x.tell(world, world >> k & 1);
            }
            due("looks(5) where " + letter(k) + " is so", 1 << k, x.looks(5));
            x.tell(1 << k, 0);
            due("looks(5) where it is so but for one world", 255, x.looks(5));
            x = new SharedSense();
            x.tell(85, 1);
            x.tell(85 ^ 1 << k, 1);
            due("looks(5) of two worlds that differ in " + letter(k), 255 ^ 1 << k, x.looks(5));
        }
        due("looks(3) of one clause of side one", 0, withClauses("one a;").looks(3));
        due("looks(4) of one clause of side two", 0, withClauses("two a;").looks(4));
        x = withClauses("one h;two h;");
        due("looks(3) of h", 128, x.looks(3));
        due("looks(4) of h", 128, x.looks(4));
        looksWithoutEnd();
    }

    private static void looksWithoutEnd() {
        about("BAD; STATE: there is no END (of WAYS)");
        SharedSense[] none = {new SharedSense(), withClauses("one a;two a;"), withProof("one a;two a;", "cut 1 0 a;")};
        for (SharedSense x : none) {
            for (int which = 0; which <= 2; which++) {
                due("looks(" + which + ") of no END", STATE, x.looks(which));
            }
            int want = x.count(0) == 0 ? 0 : 1;
            due("looks(3) of no END", want, x.looks(3));
            due("looks(4) of no END", want, x.looks(4));
            due("looks(5) of no END", 0, x.looks(5));
            due("looks(-1) of no END, BAD ahead of STATE", BAD, x.looks(-1));
            due("looks(6) of no END, BAD ahead of STATE", BAD, x.looks(6));
            due("looks(LOW)", BAD, x.looks(LOW));
            due("looks(HIGH)", BAD, x.looks(HIGH));
        }
        SharedSense x = withProof("one a;two !a;", "cut 0 1 a;");
        for (int which = 0; which <= 4; which++) {
            due("looks(" + which + ")", 1, x.looks(which));
        }
        due("looks(-1)", BAD, x.looks(-1));
        due("looks(6)", BAD, x.looks(6));
    }

    private static void compareAtEdges() {
        about("0 alike, 1 the first is within the second, 2 the other way about, 3 neither. BAD; STATE");
        SharedSense x = withProof("one a;one b;two !a;two !b;", "cut 0 2 a;");
        // By the ways, and told: a; strongest a and b; weakest a or b.
        x.copy(0, 0, 255);
        int[][] want = {
            {0, 0, 0, 2, 1, 0}, {0, 0, 0, 2, 1, 0}, {0, 0, 0, 2, 1, 0},
            {1, 1, 1, 0, 1, 1}, {2, 2, 2, 2, 0, 2}, {0, 0, 0, 2, 1, 0},
        };
        for (int one = -1; one <= 6; one++) {
            for (int other = -1; other <= 6; other++) {
                boolean bad = one < 0 || one > 5 || other < 0 || other > 5;
                due("compare(" + one + ", " + other + ")", bad ? BAD : want[one][other], x.compare(one, other));
            }
        }
        x.tell(1, 0);
        due("compare(5, 0), one world less", 1, x.compare(5, 0));
        due("compare(0, 5), one world less", 2, x.compare(0, 5));
        x.tell(254, 1);
        due("compare(5, 0), one less, one more", 3, x.compare(5, 0));
        due("compare(0, 5), one less, one more", 3, x.compare(0, 5));
        x.tell(1, 1);
        due("compare(5, 0), one world more", 2, x.compare(5, 0));
        due("compare(HIGH, LOW)", BAD, x.compare(HIGH, LOW));
        x = withClauses("one;two;");
        due("compare(3, 5), both none", 0, x.compare(3, 5));
        due("compare(3, 4), none and all", 1, x.compare(3, 4));
        due("compare(4, 3), all and none", 2, x.compare(4, 3));
        tellAll(x, true);
        due("compare(4, 5), both all", 0, x.compare(4, 5));
        SharedSense[] none = {new SharedSense(), withClauses("one a;one b;two !a;two !b;")};
        for (SharedSense y : none) {
            compareWithoutEnd(y);
        }
    }

    private static void compareWithoutEnd(SharedSense x) {
        for (int one = -1; one <= 6; one++) {
            for (int other = -1; other <= 6; other++) {
                boolean bad = one < 0 || one > 5 || other < 0 || other > 5;
                int got = x.compare(one, other);
                if (bad || one < 3 || other < 3) {
                    due("compare(" + one + ", " + other + ") of no END", bad ? BAD : STATE, got);
                } else {
                    due("compare(" + one + ", " + other + ") of no END is told", 1, got >= 0 && got <= 3 ? 1 : 0);
                }
            }
        }
        due("compare(3, 3) of no END", 0, x.compare(3, 3));
    }

    // ---- promises 17 and 18

    private static void dueBounds(String clauses, int strongest, int weakest, int free) {
        SharedSense x = withClauses(clauses);
        due("bounds(0) of '" + clauses + "'", strongest, x.bounds(0));
        due("bounds(1) of '" + clauses + "'", weakest, x.bounds(1));
        due("bounds(2) of '" + clauses + "'", free, x.bounds(2));
        due("bounds(-1)", BAD, x.bounds(-1));
        due("bounds(3)", BAD, x.bounds(3));
        due("bounds(LOW)", BAD, x.bounds(LOW));
        due("bounds(HIGH)", BAD, x.bounds(HIGH));
    }

    private static void boundsAtEdges() {
        about("STRONGEST: the least SAYING that has all WORLDS of ONE; WEAKEST: the greatest that has none of TWO");
        dueBounds("", 256, 0, 0);
        dueBounds("one;", 0, 0, 0);
        dueBounds("two;", 256, 256, 0);
        dueBounds("one;two;", 0, 256, 1);
        dueBounds("one a;", 256, 0, 0);
        dueBounds("two a;", 256, 0, 0);
        dueBounds("one a;one !a;", 0, 0, 0);
        dueBounds("one a;two !a;", 128, 128, 0);
        dueBounds("one a;two a;", 128, 128, 1);
        dueBounds("one a;one !a;two a;", 0, 128, 1);
        dueBounds("one a;two a;two !a;", 128, 256, 1);
        // No clash: what is of the weakest and of the strongest, too, is not free.
        dueBounds("one a b;two !a b;", 192, 64, 0);
        dueBounds("one " + allPlain() + ";" + eachTurned(), 255, 255, 0);
        dueBounds("one " + allPlain() + ";one;two " + allPlain() + ";two;", 0, 256, 256);
        dueBounds("one " + allPlain() + ";one;" + eachTurned(), 0, 255, 255);
        dueBounds("one h;one g;two !h;two !g;", 64, 192, 2);
    }

    private static void boundsLookAtShared() {
        about("A SAYING is a set of WORLDS that does not look at LETTERS that are not SHARED");
        for (int k = 0; k < 8; k++) {
            String own = "" + letter(k);
            String shared = "" + letter((k + 3) % 8);
            for (String sign : new String[] {" ", " !"}) {
                dueBounds("one" + sign + own + ";", 256, 0, 0);
                dueBounds("two" + sign + own + ";", 256, 0, 0);
                dueBounds("one " + shared + ";one" + sign + own + ";two !" + shared + ";", 128, 128, 0);
                dueBounds("one " + shared + ";two" + sign + own + ";two !" + shared + ";", 128, 128, 0);
                dueBounds("one " + shared + sign + own + ";two !" + shared + ";", 256, 128, 0);
                dueBounds("one " + shared + ";two !" + shared + sign + own + ";", 128, 0, 0);
                SharedSense x = withClauses("one " + shared + ";one" + sign + own + ";two !" + shared + ";");
                due("looks(3) of " + shared + ", beside" + sign + own, 1 << (k + 3) % 8, x.looks(3));
                due("looks(4) of " + shared + ", beside" + sign + own, 1 << (k + 3) % 8, x.looks(4));
                due("fewest(1) of " + shared + ", beside" + sign + own, 1 << (k + 3) % 8, x.fewest(1));
            }
        }
    }

    /** The sayings in a and b, each told by hand in an object of its own: how many are between. */
    private static void freeSayings() {
        about("if they CLASH, 2 to the FREE SAYINGS are BETWEEN");
        String[] clashes = {
            "one a;one b;two !a;two !b;", "one a;two !a;two b;one b;", "one;two a b;one a b;", "one a b;two;two a b;",
            "one a c;one !c b;two !a !b;two !d;two d a b;two b d; two a d;",
        };
        for (String clauses : clashes) {
            SharedSense first = withClauses(clauses);
            due("worlds(2), they clash", 0, first.worlds(2));
            due("count(3)", 2, first.count(3));
            int between = 0;
            for (int saying = 0; saying < 16; saying++) {
                SharedSense x = withClauses(clauses);
                for (int world = 0; world < 256; world++) {
                    x.tell(world, saying >> (world & 3) & 1);
                }
                between += x.check() == 0 ? 1 : 0;
            }
            due("sayings between of '" + clauses + "'", 1 << first.bounds(2), between);
        }
    }

    private static void dueFewest(String clauses, int many, int set) {
        SharedSense x = withClauses(clauses);
        due("fewest(0) of '" + clauses + "'", many, x.fewest(0));
        due("fewest(1) of '" + clauses + "'", set, x.fewest(1));
        due("fewest(0) once more", many, x.fewest(0));
        due("fewest(-1)", BAD, x.fewest(-1));
        due("fewest(2)", BAD, x.fewest(2));
        due("fewest(LOW)", BAD, x.fewest(LOW));
        due("fewest(HIGH)", BAD, x.fewest(HIGH));
    }

    private static void fewestLeast() {
        about("FEWEST: the fewest SHARED LETTERS (of several the least set)");
        dueFewest("one;", 0, 0);
        dueFewest("two;one a;", 0, 0);
        dueFewest("one a;one !a;two a;", 0, 0);
        dueFewest("one a;two !a;", 1, 1);
        dueFewest("one h;two !h;", 1, 128);
        dueFewest("one a;one h;two !a;two !h;", 1, 1);
        dueFewest("one h;one g;two !h;two !g;", 1, 64);
        // The fewest is not the least set: a and b (3) tell apart, and so does c (4).
        dueFewest("one a b;one c;two !a;two !b;two !c;", 1, 4);
        // Two of the three at least, or one at most: no two letters tell these apart.
        dueFewest("one a b;one a c;one b c;two !a !b;two !a !c;two !b !c;", 3, 7);
        dueFewest("one a b;one c d;two !a;two !b;two !c;two !d;", 2, 3);
        dueFewest("one c d;one e f;two !c;two !d;two !e;two !f;", 2, 12);
        dueFewest("one a c;one b c;two !a;two !b;two !c;", 2, 5);
        dueFewest("one " + allPlain() + ";" + eachTurned(), 8, 255);
        // The letter c is of one side alone.
        dueFewest("one a c;one !c b;two !a;two !b;", 2, 3);
    }

    private static void fewestNone() {
        about("FEWEST: .. NONE");
        dueFewest("", NONE, NONE);
        dueFewest("one a;", NONE, NONE);
        dueFewest("two a;", NONE, NONE);
        dueFewest("one a;two a;", NONE, NONE);
        dueFewest("one a;two b;", NONE, NONE);
        dueFewest("one " + allPlain() + ";two" + allTurned() + ";", NONE, NONE);
        SharedSense x = new SharedSense();
        due("fewest(0) of a new object", NONE, x.fewest(0));
        due("fewest(1) of a new object", NONE, x.fewest(1));
        readClauses(x, "one a;two !a;");
        due("fewest(1), clauses told", 1, x.fewest(1));
        readClauses(x, "one b;two !b;");
        due("fewest(1), clauses told anew", 2, x.fewest(1));
        x.clauses();
        due("fewest(1), no clauses again", NONE, x.fewest(1));
    }

    // ---- promises 19 to 21

    private static void tellAtEdges() {
        about("A WORLD is TOLD in (is = 1), or out (0): what it was. BAD");
        int[] edges = {0, 1, 62, 63, 64, 65, 127, 128, 191, 192, 254, 255};
        SharedSense x = new SharedSense();
        for (int world : edges) {
            due("tell(" + world + ", 0), none at first", 0, x.tell(world, 0));
            due("tell(" + world + ", 1)", 0, x.tell(world, 1));
            due("tell(" + world + ", 1) once more", 1, x.tell(world, 1));
            due("count(5)", 1, x.count(5));
            due("tell(" + world + ", 2)", BAD, x.tell(world, 2));
            due("tell(" + world + ", -1)", BAD, x.tell(world, -1));
            due("tell(" + world + ", LOW)", BAD, x.tell(world, LOW));
            due("tell(" + world + ", HIGH)", BAD, x.tell(world, HIGH));
            due("tell(" + world + ", 0)", 1, x.tell(world, 0));
            due("tell(" + world + ", 0) once more", 0, x.tell(world, 0));
        }
        int[] none = {-1, 256, 320, -64, LOW, HIGH};
        for (int world : none) {
            for (int is = -1; is <= 2; is++) {
                due("tell(" + world + ", " + is + ")", BAD, x.tell(world, is));
            }
        }
        due("count(5)", 0, x.count(5));
        tellAll(x, true);
        due("count(5) of all", 256, x.count(5));
    }

    private static void copyAtEdges() {
        about("WORLDS from .. to are TOLD as they are in ..: how many changed. BAD");
        // By each of the five h: worlds 128 .. 255.
        for (int which = 0; which <= 4; which++) {
            SharedSense x = withProof("one h;two !h;", "cut 0 1 h;");
            due("copy(" + which + ", 0, 0), out", 0, x.copy(which, 0, 0));
            due("copy(" + which + ", 255, 255), in", 1, x.copy(which, 255, 255));
            due("copy(" + which + ", 255, 255) once more", 0, x.copy(which, 255, 255));
            due("copy(" + which + ", 127, 128)", 1, x.copy(which, 127, 128));
            due("tell(127, 1)", 0, x.tell(127, 1));
            due("tell(128, 1)", 1, x.tell(128, 1));
            due("copy(" + which + ", 128, 127)", BAD, x.copy(which, 128, 127));
            due("copy(" + which + ", 127, 127), out", 1, x.copy(which, 127, 127));
            due("tell(0, 1)", 0, x.tell(0, 1));
            due("copy(" + which + ", 0, 255)", 1 + 126, x.copy(which, 0, 255));
            due("count(5)", 128, x.count(5));
            due("copy(" + which + ", -1, 255)", BAD, x.copy(which, -1, 255));
            due("copy(" + which + ", 0, 256)", BAD, x.copy(which, 0, 256));
            due("copy(" + which + ", 256, 256)", BAD, x.copy(which, 256, 256));
            due("copy(" + which + ", -1, -1)", BAD, x.copy(which, -1, -1));
            due("copy(" + which + ", 0, -1)", BAD, x.copy(which, 0, -1));
            due("copy(" + which + ", 255, 0)", BAD, x.copy(which, 255, 0));
            due("copy(" + which + ", LOW, HIGH)", BAD, x.copy(which, LOW, HIGH));
            due("count(5), kept", 128, x.count(5));
        }
        SharedSense x = withProof("one h;two !h;", "cut 0 1 h;");
        due("copy(-1, 0, 255)", BAD, x.copy(-1, 0, 255));
        due("copy(5, 0, 255)", BAD, x.copy(5, 0, 255));
        due("copy(LOW, 0, 255)", BAD, x.copy(LOW, 0, 255));
        due("copy(HIGH, 0, 255)", BAD, x.copy(HIGH, 0, 255));
        due("count(5)", 0, x.count(5));
        x = withClauses("two;");
        due("copy(0, 0, 255) of all", 256, x.copy(0, 0, 255));
        x = withClauses("one;");
        tellAll(x, true);
        due("copy(0, 1, 254) of none", 254, x.copy(0, 1, 254));
        due("count(5)", 2, x.count(5));
    }

    private static void copyWithoutEnd() {
        about("copy: STATE: there is no END");
        SharedSense[] none = {new SharedSense(), withClauses("one a;two !a;"), withProof("one a;two !a;", "cut 1 0 a;")};
        for (SharedSense x : none) {
            x.tell(0, 1);
            for (int which = 0; which <= 4; which++) {
                due("copy(" + which + ", 0, 255) of no END", STATE, x.copy(which, 0, 255));
                due("copy(" + which + ", 1, 0), BAD ahead of STATE", BAD, x.copy(which, 1, 0));
                due("copy(" + which + ", -1, 0), BAD ahead of STATE", BAD, x.copy(which, -1, 0));
                due("copy(" + which + ", 0, 256), BAD ahead of STATE", BAD, x.copy(which, 0, 256));
            }
            due("copy(-1, 0, 255), BAD ahead of STATE", BAD, x.copy(-1, 0, 255));
            due("copy(5, 0, 255), BAD ahead of STATE", BAD, x.copy(5, 0, 255));
            due("count(5), kept", 1, x.count(5));
            due("tell(0, 0), kept", 1, x.tell(0, 0));
        }
    }

    private static void firstOfChecks() {
        about("CHECK: 1 .., 2 .., 3 .. (the first of these); 0: it is BETWEEN");
        String clauses = "one a;two !a;";
        due("none: 2", 2, withClauses(clauses).check());
        SharedSense x = withClauses(clauses);
        tellAll(x, true);
        due("all: 3", 3, x.check());
        x.tell(1, 0);
        due("all but a world of ONE: 1 ahead of 2 and 3", 1, x.check());
        x = withClauses(clauses);
        for (int world = 1; world < 256; world += 2) {
            x.tell(world, 1);
        }
        due("a: 0", 0, x.check());
        x.tell(0, 1);
        due("a, and a world of TWO: 1 ahead of 3", 1, x.check());
        x.tell(0, 0);
        x.tell(255, 0);
        due("a, but for a world of ONE: 1 ahead of 2", 1, x.check());
        x = withClauses(clauses);
        for (int world = 0; world < 256; world += 2) {
            x.tell(world, 1);
        }
        due("not a: 2 ahead of 3", 2, x.check());
        x = withClauses("one;two;");
        due("none, no letter shared: 0", 0, x.check());
        x.tell(0, 1);
        due("one world, no letter shared: 1", 1, x.check());
        tellAll(x, true);
        due("all, no letter shared: 0", 0, x.check());
        due("new: 2", 2, new SharedSense().check());
        x = new SharedSense();
        tellAll(x, true);
        due("new, all: 3", 3, x.check());
        x = withClauses("one " + allPlain() + ";" + eachTurned());
        for (int world = 1; world < 256; world++) {
            x.tell(world, 1);
        }
        due("all letters, all worlds but 0: 0", 0, x.check());
        x.tell(0, 1);
        due("all letters, a world of TWO: 3", 3, x.check());
        x.tell(0, 0);
        x.tell(255, 0);
        due("all letters, but for a world of ONE: 2", 2, x.check());
        x.tell(0, 1);
        due("all letters: 2 ahead of 3", 2, x.check());
    }

    // ---- promises 22 to 26

    private static void usedByTheEnd() {
        about("USED: CLAUSES on which THE END rests. STATE: there is no END");
        due("used() of a new object", STATE, new SharedSense().used());
        due("used() of clauses alone", STATE, withClauses("one a;two !a;").used());
        due("used() of a WRONG proof", STATE, withProof("one a;two !a;", "cut 1 0 a;").used());
        due("used() of clause 0", 1, withClauses("one;two;").used());
        due("used() of clause 15", 1 << 15, withClauses(times("one a;", 15) + "two;").used());
        due("used() of clause 1, a step beside", 2, withProof("one a;two;two !a;", "cut 0 2 a;").used());
        due("used() of the first end alone", 0b0101, withProof("one a;one b;two !a;two !b;",
            "cut 0 2 a;cut 1 3 b;").used());
        due("used() through lines used twice", 0b0111, withProof("one a b;two !a b;two !b;",
            "cut 0 1 a;cut 3 2 b;").used());
        due("used() of eight", 511, withProof("one " + allPlain() + ";" + eachTurned(),
            "cut0 1a;cut9 2b;cut10 3c;cut11 4d;cut12 5e;cut13 6f;cut14 7g;cut15 8h;").used());
    }

    private static void dueNeeded(String clauses, int many, int set) {
        SharedSense x = withClauses(clauses);
        due("needed(0) of '" + clauses + "'", many, x.needed(0));
        due("needed(1) of '" + clauses + "'", set, x.needed(1));
        due("needed(0) once more", many, x.needed(0));
        due("needed(-1)", BAD, x.needed(-1));
        due("needed(2)", BAD, x.needed(2));
        due("needed(LOW)", BAD, x.needed(LOW));
        due("needed(HIGH)", BAD, x.needed(HIGH));
    }

    private static void neededLeast() {
        about("NEEDED: the fewest CLAUSES that CLASH .., of several the least set (bits)");
        dueNeeded("one;", 1, 1);
        dueNeeded("one;two;", 1, 1);
        dueNeeded("one a;two !a;two;one;", 1, 0b0100);
        dueNeeded(times("one a;", 15) + "two;", 1, 1 << 15);
        dueNeeded(times("two;", 16), 1, 1);
        dueNeeded("one a;one !a;", 2, 3);
        dueNeeded(times("one a;", 8) + times("two !a;", 8), 2, 1 | 1 << 8);
        dueNeeded("two b;one a;one c;two !c;two !a;one !b;", 2, 0b001100);
        dueNeeded("two c;one b;one a;two !a;two !b;one !c;", 2, 0b001100);
        dueNeeded("one a;one b;two !b;two !a;", 2, 0b0110);
        dueNeeded("one b;one a;two !b;two !a;", 2, 0b0101);
        // Three in front clash, and two behind them: the fewest is not the least.
        dueNeeded("one a;two !a b;two !b;one h;two !h;", 2, 0b11000);
        dueNeeded(eachOfFour(), 16, 65535);
        dueNeeded("one " + allPlain() + ";" + eachTurned(), 9, 511);
    }

    private static void neededNone() {
        about("NEEDED: .. NONE");
        dueNeeded("", NONE, NONE);
        dueNeeded("one a;", NONE, NONE);
        dueNeeded("one a;two a;", NONE, NONE);
        dueNeeded("one " + allPlain() + ";two" + allTurned() + ";", NONE, NONE);
        // One world alone is left, the first or the last.
        dueNeeded(eachTurned(), NONE, NONE);
        dueNeeded(eachTurned().replace("!", ""), NONE, NONE);
        SharedSense x = new SharedSense();
        due("needed(0) of a new object", NONE, x.needed(0));
        readClauses(x, "one;");
        due("needed(1), clauses told", 1, x.needed(1));
        readClauses(x, "one a;two;");
        due("needed(1), clauses told anew", 2, x.needed(1));
        x.clauses();
        due("needed(1), no clauses again", NONE, x.needed(1));
    }

    private static void dueLabour(SharedSense x, int i, int rule, int left, int right, int even) {
        due("labour(0, " + i + ")", rule, x.labour(0, i));
        due("labour(1, " + i + ")", left, x.labour(1, i));
        due("labour(2, " + i + ")", right, x.labour(2, i));
        due("labour(3, " + i + ")", even, x.labour(3, i));
    }

    private static void labourAtEdges() {
        about("EVEN up by 2, rounded down; BAD");
        SharedSense x = withProof("one;two;one a;two " + allPlain() + ";one b c d;two !a;", "cut 2 5 a;");
        dueLabour(x, 0, 0, 0, 1, 0);
        dueLabour(x, 1, 0, 256, 1, 128);
        dueLabour(x, 2, 1, 129, 3, 64);
        dueLabour(x, 3, 8, 264, 17, 132);
        dueLabour(x, 4, 3, 227, 7, 113);
        dueLabour(x, 5, 1, 257, 3, 128);
        dueLabour(x, 6, 0, 128, 1, 64);
        dueLabour(withClauses("one a;two b;"), 0, 1, 1, 3, 0);
        dueLabour(withClauses("one a b;two c;"), 0, 2, 2, 5, 1);
        dueLabour(withClauses("one a b c;two d;"), 0, 3, 3, 7, 1);
        int[] noKind = {-1, 4, LOW, HIGH};
        for (int kind : noKind) {
            due("labour(" + kind + ", 0)", BAD, x.labour(kind, 0));
            due("labour(" + kind + ", 7)", BAD, x.labour(kind, 7));
        }
        for (int kind = 0; kind <= 3; kind++) {
            due("labour(" + kind + ", -1)", BAD, x.labour(kind, -1));
            due("labour(" + kind + ", 7)", BAD, x.labour(kind, 7));
            due("labour(" + kind + ", LOW)", BAD, x.labour(kind, LOW));
            due("labour(" + kind + ", HIGH)", BAD, x.labour(kind, HIGH));
            due("labour(" + kind + ", 0) of no clauses", BAD, new SharedSense().labour(kind, 0));
        }
        due("trace(), what was refused adds nothing", 7 * 1124, x.trace());
    }

    private static void countAtEdges() {
        about("count: 0 CLAUSES .. 5 WORLDS TOLD in. BAD");
        SharedSense x = new SharedSense();
        for (int what = 0; what <= 5; what++) {
            due("count(" + what + ") of a new object", 0, x.count(what));
        }
        int[] none = {-1, 6, LOW, HIGH};
        for (int what : none) {
            due("count(" + what + ")", BAD, x.count(what));
        }
        x = withProof("one " + allPlain() + ";two" + allTurned() + ";one a;" + times("two !a;", 13),
            times("cut2 15a;", 24));
        type(x, times("?", 300));
        for (int world = 0; world < 256; world++) {
            x.tell(world, 1);
        }
        int[] most = {16, 24, 24, 8, 300, 256};
        for (int what = 0; what <= 5; what++) {
            due("count(" + what + ") at most", most[what], x.count(what));
        }
        x = withProof("one a;two !a;", "cut 0 1 a;cut 1 0 a;cut 0 1 a;");
        due("count(1), LINES of a WRONG proof", 1, x.count(1));
        due("count(2), STEPS of a WRONG proof", 3, x.count(2));
    }

    private static void traceOfBodies() {
        about("numbers in brackets come to THE TRACE as often as labour() asks that body");
        int[] weight = {1, 11, 101, 1011};
        for (int kind = 0; kind <= 3; kind++) {
            SharedSense x = withClauses("one a;");
            due("trace() at first", 0, x.trace());
            x.labour(kind, 0);
            due("trace() of kind " + kind, weight[kind], x.trace());
            due("trace() once more", weight[kind], x.trace());
            x.labour(kind, 0);
            due("trace() of kind " + kind + " twice", 2 * weight[kind], x.trace());
            x.labour(kind, 1);
            x.labour(kind, -1);
            x.labour(kind - 4, 0);
            x.labour(kind + 4, 0);
            due("trace(), refused calls", 2 * weight[kind], x.trace());
            readClauses(x, "?");
            readClauses(x, "two;");
            x.proof();
            x.clear();
            due("trace(), other calls", 2 * weight[kind], x.trace());
        }
        due("trace() of a new object", 0, new SharedSense().trace());
    }

    // ---- how an object is used

    private static void manyCalls() {
        about("An object is used for at most 512 calls");
        SharedSense x = withClauses(eachOfFour());
        for (int call = 30; call < 511; call++) {
            x.labour(3, 15);
        }
        due("trace() at the last call", 481L * 1011, x.trace());
        x = new SharedSense();
        for (int round = 0; round < 170; round++) {
            x.type(0x6F6E653B74776F3BL, 8);
            due("clauses(), round " + round, 2, x.clauses());
            due("needed(1), round " + round, 1, x.needed(1));
        }
        x = withClauses("one a;two !a;");
        for (int round = 0; round < 160; round++) {
            x.type(0x63757430203161L, 7);
            x.type(';', 1);
            due("proof(), round " + round, 1, x.proof());
        }
        due("end()", 2, x.end());
    }

    private static void manyObjects() {
        about("No answer depends on another object");
        SharedSense x = withProof(CHAIN, CHAIN_PROOF);
        SharedSense y = new SharedSense();
        x.tell(3, 1);
        x.labour(3, 0);
        type(x, "one");
        for (int what = 0; what <= 5; what++) {
            due("count(" + what + ") of another", 0, y.count(what));
        }
        due("trace() of another", 0, y.trace());
        due("end() of another", NONE, y.end());
        readClauses(y, "two;");
        due("end() of the first", 9, x.end());
        due("count(4) of the first", 3, x.count(4));
        due("count(5) of the first", 1, x.count(5));
        due("line(9, 3) of the first", 8, x.line(9, 3));
    }
}
