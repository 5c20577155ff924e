/** The document's sentences on texts that name an edge, each with a test of its own: "Terms", promises 1 to 4, 6, 7. */
public final class TextEdgeTest extends Bench {
    private static final String SIXTY = souls(2) + times("heir 0 1;", 58);

    public static void main(String[] args) {
        TextEdgeTest t = new TextEdgeTest();
        t.parishOfSixHundredBytes();
        t.sixtyClauses();
        t.eightSouls();
        t.prideOneToNine();
        t.fourteenGrudgesAtMost();
        t.bothToldAhead();
        t.notOne();
        t.notTwoByAAgainstB();
        t.sumOneToThirty();
        t.waitsToldOnceMore();
        t.lastHeirCounts();
        t.lawOfHundredFiftyBytes();
        t.lawAtTheEndNothingMore();
        t.withoutALaw();
        t.worthNoughtToTwenty();
        t.lawNumbers();
        t.lawParts();
        t.lawFactsByNow();
        t.lawWraps();
        t.lawCutsAndLeaves();
        t.lawByNought();
        t.sixOpenInALaw();
        t.workOfHundredFiftyBytes();
        t.workParts();
        t.workNumbers();
        t.againNoughtToThirty();
        t.sixAgainsOpen();
        t.bookOfSixtyBytes();
        t.bookParts();
        t.bookNumbers();
        t.noBTwice();
        t.numbersAsManyDigits();
        t.wordsAsManyLetters();
        t.blanks();
        t.firstFaultFromTheLeft();
        t.faultAtTheLength();
        t.ofOnePlaceTheLeastFault();
        t.newObject();
        t.feedTwentyBytes();
        t.feedBeyondSixHundred();
        t.wrongNOfEachText();
        t.tapeIsEmptyThen();
        t.parishDropsAll();
        t.parishWithAFaultKeepsAll();
        t.lawWithAFaultKeepsAll();
        t.bookWithAFaultKeepsAll();
        t.faultOfTheLatestText();
        t.c.end();
    }

    // ---- a PARISH ----

    /** "A PARISH is a text of up to 600 bytes" */
    private void parishOfSixHundredBytes() {
        x = new LychGate();
        parishIs(times(" ", 593) + "soul 7;", 0, -1);
        soulIs(0, 0, 7);
        fresh("soul 2;");
        fed(times(" ", 593) + "soul 7;");
        is("all of 600 bytes", 600, g -> g.count(1));
        is("one byte less ends too early", -9, g -> g.parish(599));
        is("at the length", 599, g -> g.fault());
        refuses("n of 601", ILLEGAL, g -> g.parish(601));
        // A word whose last byte is the last of 600 is whole.
        parishIs(times(" ", 596) + "soul", -9, 600);
        parishIs(times(" ", 596) + "heir", -9, 600);
    }

    /** "{ CLAUSE ";" }, at most 60"; "3 a CLAUSE .. too many (at its word)" */
    private void sixtyClauses() {
        fresh("soul 5;");
        parishIs("", 0, -1);
        toldIs(0, 0);
        parishIs("soul 1;", 0, -1);
        parishIs(" ", 0, -1);
        toldIs(0, 0);
        parishIs(";", -9, 0);
        parishIs("soul 1", -9, 6);
        parishIs("soul 1,", -9, 6);
        parishIs("soul 1;;", -9, 7);
        parishIs(souls(2) + times("heir 0 1;", 57), 0, -1);
        parishIs(SIXTY, 0, -1);
        parishIs(SIXTY + "  ", 0, -1);
        parishIs(souls(2) + times("heir 0 1;", 57) + "grudge 0 1 1;", 1, -1);
        parishIs(souls(2) + times("heir 0 1;", 57) + "waits 0 1;", 0, -1);
        parishIs(souls(2) + times("heir 0 1;", 57) + "soul 6;", 0, -1);
        soulIs(2, 0, 6);
        for (String word : new String[] {"soul", "grudge", "waits", "heir"}) {
            parishIs(SIXTY + word, -7, 536);
            parishIs(SIXTY + "  " + word + " 0 1;", -7, 538);
        }
        toldIs(0, 3);
    }

    /** "SOULS, numbered from 0 on, 8 at most" */
    private void eightSouls() {
        x = new LychGate();
        parishIs("soul 8;soul 7;soul 6;soul 5;soul 4;soul 3;soul 2;soul 1;", 0, -1);
        toldIs(0, 8);
        toldIs(4, 255);
        for (int soul = 0; soul < 8; soul++) {
            soulIs(soul, 0, 8 - soul);
        }
        is("no ninth", NO_SUCH, g -> g.soul(8, 0));
        parishIs(souls(7), 0, -1);
        toldIs(0, 7);
        parishIs(souls(9), -7, 56);
        parishIs(souls(8) + "  soul 0;", -7, 58);
        parishIs(souls(8) + "soul", -7, 56);
        parishIs(souls(8) + "waits 7 0;soul 1;", -7, 66);
        toldIs(0, 7);
    }

    /** "PRIDE P, 1 to 9" */
    private void prideOneToNine() {
        x = new LychGate();
        parishIs("soul 1;", 0, -1);
        soulIs(0, 0, 1);
        parishIs("soul 9;", 0, -1);
        soulIs(0, 0, 9);
        parishIs("soul 0;", -8, 5);
        parishIs("soul 10;", -8, 5);
        parishIs("soul -1;", -9, 5);
        soulIs(0, 0, 9);
    }

    /** "GRUDGES likewise, 14" */
    private void fourteenGrudgesAtMost() {
        x = new LychGate();
        parishIs(souls(8) + fourteenGrudges(), 14, -1);
        toldIs(1, 14);
        toldIs(5, 16383);
        grudgeIs(0, 1, 1);
        grudgeIs(13, 0, 1);
        grudgeIs(13, 1, 7);
        is("no fifteenth", NO_SUCH, g -> g.grudge(14, 0));
        parishIs(souls(8) + fourteenGrudges() + "grudge 2 0 1;", -7, 238);
        parishIs(souls(8) + fourteenGrudges() + " grudge 0 1 1;", -7, 239);
        parishIs(souls(8) + fourteenGrudges() + "grudge", -7, 238);
        parishIs(souls(8) + fourteenGrudges() + "waits 0 1;heir 0 1;", 14, -1);
        parishIs(souls(8) + fourteenGrudges().substring(0, 169), 13, -1);
        toldIs(1, 13);
        parishIs("soul 1;", 0, -1);
        toldIs(1, 0);
    }

    /** "SOUL A holds against B, both told ahead" (and of waits, heir likewise) */
    private void bothToldAhead() {
        x = new LychGate();
        for (String word : new String[] {"grudge", "waits", "heir"}) {
            String rest = word.equals("grudge") ? " 5;" : ";";
            int at = word.length() + 1;
            parishIs(word + " 0 1" + rest, -8, at);
            parishIs("soul 1;" + word + " 0 1" + rest + "soul 1;", -8, at + 9);
            parishIs("soul 1;" + word + " 1 0" + rest + "soul 1;", -8, at + 7);
            parishIs(souls(2) + word + " 0 2" + rest, -8, at + 16);
            parishIs(souls(2) + word + " 2 0" + rest, -8, at + 14);
            parishIs(souls(8) + word + " 7 8" + rest, -8, at + 58);
            parishIs(souls(8) + word + " 8 7" + rest, -8, at + 56);
            parishIs(souls(8) + word + " 0 7" + rest, word.equals("grudge") ? 1 : 0, -1);
            parishIs(souls(8) + word + " 7 0" + rest, word.equals("grudge") ? 1 : 0, -1);
        }
        soulIs(7, 3, 0);
        parishIs(souls(8) + "waits 7 0;waits 0 7;", 0, -1);
        soulIs(7, 2, 1);
        soulIs(0, 2, 128);
    }

    /** "not one": "B of grudge, waits, heir as A" */
    private void notOne() {
        x = new LychGate();
        parishIs(souls(3) + "grudge 0 0 5;", -8, 30);
        parishIs(souls(3) + "grudge 2 2 5;", -8, 30);
        parishIs(souls(3) + "waits 0 0;", -8, 29);
        parishIs(souls(3) + "waits 2 02;", -8, 29);
        parishIs(souls(3) + "heir 0 0;", -8, 28);
        parishIs(souls(3) + "heir 1 1;", -8, 28);
    }

    /** "not two by A against B": "B of a grudge that A holds against already" */
    private void notTwoByAAgainstB() {
        x = new LychGate();
        parishIs(souls(3) + "grudge 0 1 5;grudge 0 1 5;", -8, 43);
        parishIs(souls(3) + "grudge 0 1 5;grudge 2 1 5;grudge 0 2 5;grudge 1 0 5;grudge 0 1 6;", -8, 82);
        parishIs(souls(3) + "grudge 0 1 5;grudge 0 1 x;", -8, 43);
        parishIs(souls(3) + "grudge 0 1 5;grudge 1 0 5;", 2, -1);
        parishIs(souls(3) + "grudge 0 1 5;grudge 0 2 5;", 2, -1);
        parishIs(souls(3) + "grudge 0 2 5;grudge 1 2 5;", 2, -1);
        // What an earlier text told is no matter, nor what one with a FAULT told.
        parishIs(souls(3) + "grudge 0 2 5;", 1, -1);
    }

    /** "a sum S, 1 to 30" */
    private void sumOneToThirty() {
        x = new LychGate();
        parishIs(souls(2) + "grudge 0 1 1;", 1, -1);
        grudgeIs(0, 2, 1);
        parishIs(souls(2) + "grudge 0 1 30;", 1, -1);
        grudgeIs(0, 2, 30);
        parishIs(souls(2) + "grudge 0 1 0;", -8, 25);
        parishIs(souls(2) + "grudge 0 1 31;", -8, 25);
        parishIs(souls(2) + "grudge 0 1;", -9, 24);
        grudgeIs(0, 2, 30);
    }

    /** "told once more it is as once" */
    private void waitsToldOnceMore() {
        fresh(souls(3) + "waits 0 1;waits 0 1;waits 0 1;");
        soulIs(0, 2, 2);
        soulIs(1, 2, 0);
        workIs("die 1;", 1);
        soulIs(0, 1, 1);
        fresh(souls(3) + "waits 0 1;waits 0 2;waits 0 1;");
        soulIs(0, 2, 6);
        fresh(souls(8) + "waits 0 1;waits 0 2;waits 0 3;waits 0 4;waits 0 5;waits 0 6;waits 0 7;");
        soulIs(0, 2, 254);
    }

    /** "of one A the last counts"; "3 its heir (NONE)" */
    private void lastHeirCounts() {
        fresh(souls(3) + "heir 0 1;heir 1 2;heir 0 2;");
        soulIs(0, 3, 2);
        soulIs(1, 3, 2);
        soulIs(2, 3, -1);
        fresh(souls(3) + "heir 0 2;heir 0 1;heir 0 2;heir 0 1;");
        soulIs(0, 3, 1);
    }

    // ---- a LAW ----

    /** "A LAW is a text of up to 150 bytes" */
    private void lawOfHundredFiftyBytes() {
        fresh("soul 1;");
        lawIs(times(" ", 149) + "7", 1, -1);
        is("worth", 7, g -> g.would(0, 1, 0, 0, 0, 0, 0));
        lawIs("1" + times("+0", 73) + "+12", 1, -1);
        is("worth", 13, g -> g.would(0, 1, 0, 0, 0, 0, 0));
        fed(times(" ", 150) + "7");
        is("n of 150 of these", -9, g -> g.law(150));
        is("at the length", 150, g -> g.fault());
        refuses("n of 151", ILLEGAL, g -> g.law(151));
        refuses("n of 160, as many as there are", ILLEGAL, g -> g.law(160));
    }

    /** "E, at the end nothing more" */
    private void lawAtTheEndNothingMore() {
        fresh("soul 1;");
        lawIs("6  ", 1, -1);
        lawIs("6 6", -9, 2);
        lawIs("6;", -9, 1);
        lawIs("6)", -9, 1);
        lawIs("6]", -9, 1);
        lawIs("6,6", -9, 1);
        lawIs("sum sum", -9, 4);
        lawIs("(1)(1)", -9, 3);
        lawIs("least[1,2]3", -9, 10);
        is("the first one stays", 6, g -> g.would(0, 1, 0, 0, 0, 0, 0));
    }

    /** "without: 1 + sum / 10" */
    private void withoutALaw() {
        fresh("soul 1;");
        int[][] due = {{0, 1}, {1, 1}, {9, 1}, {10, 2}, {19, 2}, {20, 3}, {29, 3}, {30, 4}};
        for (int[] d : due) {
            is("without a LAW, sum " + d[0], d[1], g -> g.would(d[0], 9, 999, 30, 7, 400, 7));
        }
    }

    /** "WORTH .. what comes out, 0 at least, 20 at most" */
    private void worthNoughtToTwenty() {
        scene(souls(2) + "grudge 0 1 5;", "sum-10", "");
        int[][] due = {{0, 0}, {9, 0}, {10, 0}, {11, 1}, {29, 19}, {30, 20}};
        for (int[] d : due) {
            is("sum less 10 for " + d[0], d[1], g -> g.would(d[0], 1, 0, 0, 0, 0, 0));
        }
        lawIs("sum-9", 1, -1);
        is("21 is 20", 20, g -> g.would(30, 1, 0, 0, 0, 0, 0));
        lawIs("0-1", 1, -1);
        grudgeIs(0, 5, 0);
        workIs("forgive 0;", 1);
        toldIs(3, 0);
        toldIs(6, 1);
        lawIs("21", 1, -1);
        grudgeIs(0, 5, 20);
        workIs("week;forgive 0;", 2);
        toldIs(3, 20);
    }

    /** "N (0 to 999)" */
    private void lawNumbers() {
        fresh("soul 1;");
        lawIs("0", 1, -1);
        is("0", 0, g -> g.would(0, 1, 0, 0, 0, 0, 0));
        lawIs("999-990", 1, -1);
        is("999", 9, g -> g.would(0, 1, 0, 0, 0, 0, 0));
        lawIs("1000", -8, 0);
        lawIs("5+1000", -8, 2);
        lawIs("5*4294967297", -8, 2);
        lawIs("5-18446744073709551617", -8, 2);
        is("999 still", 9, g -> g.would(0, 1, 0, 0, 0, 0, 0));
    }

    /** "E: T { + or - T }. T: U { * or / or % U }. U: .." */
    private void lawParts() {
        fresh("soul 1;");
        String[] right = {"10-2-3", "10-2+3", "2+3*4", "20/2/5", "20/5*4", "20%7*2", "3*7%4", "1+2%3*5",
            "(1+2)*3", "least[4,3]", "least[3,4]", "most[4,3]", "most[3,4]", "least[3,3]", "most[least[9,5],2]", "((5))"};
        int[] due = {5, 11, 14, 2, 16, 12, 1, 11, 9, 3, 3, 4, 4, 3, 5, 5};
        for (int i = 0; i < right.length; i++) {
            lawIs(right[i], 1, -1);
            int worth = due[i];
            is("worth by " + right[i], worth, g -> g.would(0, 1, 0, 0, 0, 0, 0));
        }
        String[] wrong = {"", "+", "+1", "-1", "*1", "1+", "1-", "1*", "1/", "1%", "1++1", "1--1", "1+-1", "1**1", "1/*1",
            "()", "(", ")", "(1", "(1]", "(1,2)", "least", "least 1", "least(1,2)", "least[", "least[]", "least[1", "least[1]",
            "least[1,", "least[1,]", "least[1,2", "least[1,2)", "least[1,2,3]", "most[,1]", "most[1;2]", "[1,2]", "1^2"};
        int[] place = {0, 0, 0, 0, 0, 2, 2, 2, 2, 2, 2, 2, 2, 2, 2,
            1, 1, 0, 2, 2, 2, 5, 6, 5, 6, 6, 7, 7,
            8, 8, 9, 9, 9, 5, 6, 0, 1};
        for (int i = 0; i < wrong.length; i++) {
            lawIs(wrong[i], -9, place[i]);
        }
    }

    /** What the words of a LAW say of a GRUDGE: "S by now", "of A", "by now", "0 without", "by others", .. */
    private void lawFactsByNow() {
        String parish = "soul 2;soul 3;soul 4;soul 9;grudge 0 1 13;grudge 1 0 8;grudge 2 1 3;grudge 3 1 3;heir 0 3;heir 1 2;heir 2 0;";
        scene(parish, "sum", "");
        grudgeIs(0, 5, 13);
        workIs("die 2;", 1);
        grudgeIs(2, 5, 0);
        scene(souls(3) + "grudge 0 1 13;heir 0 2;", "sum", "", "die 0;");
        grudgeIs(0, 5, 6);
        scene("soul 2;soul 3;soul 9;grudge 0 1 13;heir 0 2;", "pride*2", "");
        grudgeIs(0, 5, 4);
        workIs("die 0;", 1);
        grudgeIs(0, 5, 18);
        scene("soul 2;soul 3;soul 9;grudge 0 1 13;heir 0 2;", "soul+10", "");
        grudgeIs(0, 5, 10);
        workIs("die 0;", 1);
        grudgeIs(0, 5, 12);
        scene(souls(3) + "grudge 0 1 13;heir 0 2;", "times+5", "");
        grudgeIs(0, 5, 5);
        workIs("lie 0;drink 0 1;forgive 0;week;", 4);
        grudgeIs(0, 5, 7);
        workIs("die 0;", 1);
        grudgeIs(0, 5, 5);
        scene(souls(4) + "grudge 0 1 13;grudge 1 0 9;grudge 2 0 7;heir 0 3;heir 1 3;", "owed+1", "");
        grudgeIs(0, 5, 10);
        grudgeIs(1, 5, 14);
        grudgeIs(2, 5, 1);
        workIs("forgive 1;", 1);
        grudgeIs(0, 5, 10);
        workIs("die 0;", 1);
        grudgeIs(0, 5, 1);
        grudgeIs(1, 5, 0);
        scene(parish, "others+1", "");
        grudgeIs(0, 5, 3);
        grudgeIs(1, 5, 1);
        workIs("forgive 3;", 1);
        grudgeIs(0, 5, 3);
        workIs("die 3;", 1);
        grudgeIs(0, 5, 2);
        scene(souls(8) + "grudge 1 0 1;grudge 2 0 1;grudge 3 0 1;grudge 4 0 1;grudge 5 0 1;grudge 6 0 1;grudge 7 0 1;",
            "others+soul", "");
        grudgeIs(6, 5, 13);
        scene(souls(2) + "grudge 0 1 13;", "week+1", "");
        grudgeIs(0, 5, 1);
        workIs("week;", 1);
        grudgeIs(0, 5, 2);
    }

    private void worthIs(String law, int due) {
        lawIs(law, 1, -1);
        is("worth by " + law, due, g -> g.would(0, 1, 0, 0, 0, 0, 0));
    }

    /** "Values are whole numbers of 32 bits that wrap" */
    private void lawWraps() {
        fresh("soul 1;");
        worthIs("512*512*512*16", 0);
        worthIs("512*512*512*16-1", 20);
        worthIs("512*512*512*32+7", 7);
        worthIs("512*512*512*15+512*512*512", 0);
        worthIs("512*512*512*15+(512*512*512-1)+7", 0);
        worthIs("512*512*512*15+(512*512*512-1)", 20);
        worthIs("0-512*512*512*16-1", 20);
        worthIs("0-512*512*512*8-512*512*512*8-2", 20);
        worthIs("(512*512*512*16)/(0-1)-1", 20);
        worthIs("(512*512*512*16)%(0-1)+7", 7);
        // 999 to the 4th is 996005996001, by 32 bits -426416671; by -999 426843, by 999 427, by 40 10.
        worthIs("999*999*999*999/(0-999)/999/40", 10);
        worthIs("least[512*512*512*16,7]+9", 0);
        worthIs("most[512*512*512*16,7]", 7);
    }

    /** "/ cuts, % leaves (with the sign of what is divided)" */
    private void lawCutsAndLeaves() {
        fresh("soul 1;");
        worthIs("7/2", 3);
        worthIs("(0-7)/2+10", 7);
        worthIs("7/(0-2)+10", 7);
        worthIs("(0-7)/(0-2)", 3);
        worthIs("1/2", 0);
        worthIs("(0-1)/2+10", 10);
        worthIs("7%3", 1);
        worthIs("(0-7)%3+10", 9);
        worthIs("7%(0-3)+10", 11);
        worthIs("(0-7)%(0-3)+10", 9);
        worthIs("6%3", 0);
    }

    /** "by 0 both are 0" */
    private void lawByNought() {
        fresh("soul 1;");
        worthIs("7/0+3", 3);
        worthIs("7%0+3", 3);
        worthIs("0/0+3", 3);
        worthIs("0%0+3", 3);
        worthIs("7/(5-5)+3", 3);
        worthIs("(0-7)%(5-5)+3", 3);
        worthIs("7/sum+3", 3);
        worthIs("7%times+3", 3);
    }

    /** "a 7th of ( least most .. that is open at one time" */
    private void sixOpenInALaw() {
        fresh("soul 1;");
        worthIs("((((((5))))))", 5);
        lawIs("(((((((5)))))))", -7, 6);
        worthIs(times("least[9,", 6) + "5" + times("]", 6), 5);
        lawIs(times("least[9,", 7) + "5" + times("]", 7), -7, 48);
        worthIs(times("most[", 6) + "5" + times(",1]", 6), 5);
        lawIs(times("most[", 7) + "5" + times(",1]", 7), -7, 30);
        lawIs("(least[1,(most[(least[ (5", -7, 23);
        lawIs("(least[1,(most[(least[1, least", -7, 25);
        lawIs("(least[1,(most[(least[1,most", -7, 24);
        worthIs("(least[7,(most[(least[7,5]),1])])+((((((1))))))", 6);
        worthIs("least[((((5)))),((((6))))]+most[(((((1))))),(((((2)))))]", 7);
        lawIs("least[((((5)))),((((((6", -7, 21);
        worthIs("((((((1))))))*((((((2))))))-((((((1))))))", 1);
    }

    // ---- a text of WORK ----

    /** "WORK is a text of up to 150 bytes" */
    private void workOfHundredFiftyBytes() {
        fresh("soul 1;");
        workIs(times("week;", 30), 30);
        workIs(times(" ", 145) + "week;", 1);
        toldIs(2, 31);
        fed(times(" ", 146) + "week;");
        is("n of 150 of these", -9, g -> g.work(150));
        is("at the length", 150, g -> g.fault());
        refuses("n of 151", ILLEGAL, g -> g.work(151));
        refuses("n of 160, as many as there are", ILLEGAL, g -> g.work(160));
    }

    /** "{ STEP ";" }. STEP: .." */
    private void workParts() {
        fresh(souls(3) + "grudge 0 1 5;");
        workIs("", 0);
        workIs("  ", 0);
        is("both are WORKS", 2, g -> g.count(2));
        String[] wrong = {";", "week", "week,", "week;;", "week week;", "forgive", "forgive;", "forgive 0", "forgive 0 0;",
            "lie;", "drink 0;", "drink 0 1 2;", "begin 0 1;", "begin 0 1 2 0;", "pass;", "die;", "die 0", "week 1;",
            "again;", "again 1", "again 1;", "again 1(week;);", "again 1[", "again 1[week", "again 1[week]", "again 1[week;",
            "again 1[week;]", "again 1[;];", "again 1[]]", "]", "];", "[week;];", "soul 1;", "begun 0 1 2;"};
        int[] place = {0, 4, 4, 5, 5, 7, 7, 9, 10,
            3, 7, 10, 9, 12, 4, 3, 5, 5,
            5, 7, 7, 7, 8, 12, 12, 13,
            14, 8, 9, 0, 0, 0, 0, 0};
        for (int i = 0; i < wrong.length; i++) {
            workIs(wrong[i], -9, place[i]);
        }
        is("none of these is a WORK", 2, g -> g.count(2));
        toldIs(2, 0);
    }

    /** "2 a number that is none such": a GRUDGE or SOUL of WORK that was not told */
    private void workNumbers() {
        fresh(souls(3) + "grudge 0 1 5;grudge 1 2 5;");
        workIs("forgive 1;lie 1;", 1);
        workIs("forgive 2;", -8, 8);
        workIs("lie 2;", -8, 4);
        workIs("drink 2 2;begin 2 2 2;", 0);
        workIs("drink 3 0;", -8, 6);
        workIs("drink 0 3;", -8, 8);
        workIs("begin 3 0 1;", -8, 6);
        workIs("begin 0 3 1;", -8, 8);
        workIs("begin 0 1 3;", -8, 10);
        workIs("pass 2;", 1);
        workIs("pass 3;", -8, 5);
        workIs("die 3;", -8, 4);
        workIs("week;die 4294967296;", -8, 9);
        workIs("die 2;", 1);
        // GRUDGES that are gone and SOULS that are dead were told.
        workIs("forgive 1;lie 1;drink 2 0;begin 0 1 2;pass 2;die 2;", 0);
        toldIs(11, 6);
        toldIs(2, 0);
        fresh("");
        workIs("forgive 0;", -8, 8);
        workIs("lie 0;", -8, 4);
        workIs("drink 0 0;", -8, 6);
        workIs("begin 0 0 0;", -8, 6);
        workIs("pass 0;", -8, 5);
        workIs("die 0;", -8, 4);
    }

    /** ""again" N "[" { STEP ";" } "]" (N 0 to 30)" */
    private void againNoughtToThirty() {
        fresh("soul 1;");
        workIs("again 0[week;];", 0);
        workIs("again 1[week;];", 1);
        workIs("again 30[week;];", 30);
        toldIs(2, 31);
        workIs("again 31[week;];", -8, 6);
        workIs("again 4294967297[week;];", -8, 6);
        workIs("again 30[];again 0[];", 0);
        toldIs(11, 0);
    }

    /** "a 7th of .. again that is open at one time" */
    private void sixAgainsOpen() {
        fresh("soul 1;");
        workIs(times("again 1[", 6) + "week;" + times("];", 6), 1);
        workIs(times("again 1[", 7) + "week;" + times("];", 7), -7, 48);
        workIs(times("again 1[", 6) + "week;  again", -7, 55);
        workIs("again 1[];" + times("again 1[", 6) + times("];", 6), 0);
        workIs(times("again 0[", 5) + "again 0[];again 0[];" + times("];", 5), 0);
        workIs(times("again 0[", 7), -7, 48);
        toldIs(2, 1);
    }

    // ---- a BOOK ----

    /** "A BOOK is one of up to 60 bytes" */
    private void bookOfSixtyBytes() {
        fresh(souls(2));
        bookIs(times(" ", 56) + "1 0;", 1, -1);
        fed(times(" ", 57) + "1 0;");
        is("n of 60 of these", -9, g -> g.book(60));
        is("at the length", 60, g -> g.fault());
        refuses("n of 61", ILLEGAL, g -> g.book(61));
        refuses("n of 80, as many as there are", ILLEGAL, g -> g.book(80));
    }

    /** "{ B N ";" }" */
    private void bookParts() {
        fresh(souls(8));
        bookIs("0 0;1 1;2 2;3 3;4 4;5 5;6 6;7 8;", 8, -1);
        toldIs(10, 8);
        bookIs("7 0;", 1, -1);
        toldIs(10, 1);
        bookIs("", 0, -1);
        toldIs(10, 0);
        bookIs("1 0;2 0;", 2, -1);
        bookIs("  ", 0, -1);
        toldIs(10, 0);
        String[] wrong = {";", "0", "0;", "0 1", "0 1,", "0 1;;", "0 1 1;", "a 1;", "0 a;", "0,1;", "0 -1;"};
        int[] place = {0, 1, 1, 3, 3, 4, 4, 0, 2, 1, 2};
        for (int i = 0; i < wrong.length; i++) {
            bookIs(wrong[i], -9, place[i]);
        }
    }

    /** "N lied (0 to 8)"; B is a SOUL */
    private void bookNumbers() {
        fresh(souls(3));
        bookIs("0 0;2 8;", 2, -1);
        bookIs("0 9;", -8, 2);
        bookIs("0 4294967296;", -8, 2);
        bookIs("3 0;", -8, 0);
        bookIs("0 1;4294967297 0;", -8, 4);
        toldIs(10, 2);
        workIs("die 1;", 1);
        bookIs("1 0;", 1, -1);
        fresh("");
        bookIs("0 0;", -8, 0);
    }

    /** "no B twice": "a B twice in a BOOK" */
    private void noBTwice() {
        fresh(souls(3));
        bookIs("0 0;0 0;", -8, 4);
        bookIs("0 0;1 0;2 0;01 0;", -8, 12);
        bookIs("2 0;2 9;", -8, 4);
        bookIs("1 1;0 1;", 2, -1);
        bookIs("1 1;", 1, -1);
    }

    // ---- numbers, words, blanks, FAULTS ----

    /** "Numbers: digits, as many as stand there" */
    private void numbersAsManyDigits() {
        x = new LychGate();
        parishIs("soul 01;soul 0000000000000000000000000000009;", 0, -1);
        soulIs(0, 0, 1);
        soulIs(1, 0, 9);
        parishIs("soul 010;", -8, 5);
        parishIs("soul 4294967297;", -8, 5);
        parishIs("soul 2147483649;", -8, 5);
        parishIs("soul 18446744073709551617;", -8, 5);
        parishIs("soul 100000000000000000000000000000000000001;", -8, 5);
        parishIs("soul1;soul2;grudge0 1 5;grudge 1 00 030;", 2, -1);
        grudgeIs(1, 2, 30);
        parishIs("soul 1;soul 1;grudge 0 11;", -8, 23);
        parishIs("soul 1;soul 1;grudge 011;", -8, 21);
        parishIs("soul 1_;", -9, 6);
        lawIs("0000000000000999-990", 1, -1);
        is("worth", 9, g -> g.would(0, 1, 0, 0, 0, 0, 0));
        lawIs("00000000000001000", -8, 0);
        lawIs("sum9", -9, 3);
    }

    /** "WORDS: small letters, as many as stand there" */
    private void wordsAsManyLetters() {
        x = new LychGate();
        String[] wrong = {"souls 1;", "sou 1;", "soulsoul 1;", "Soul 1;", "soUl 1;", "SOUL 1;", "soula 1;",
            "soulz 1;", "zsoul 1;", "soul`1;", "soul{1;"};
        int[] place = {0, 0, 0, 0, 0, 0, 0, 0, 0, 4, 4};
        for (int i = 0; i < wrong.length; i++) {
            parishIs(wrong[i], -9, place[i]);
        }
        parishIs(souls(2) + "grudges 0 1 5;", -9, 14);
        parishIs(souls(2) + "wait 0 1;", -9, 14);
        parishIs(souls(2) + "heirs 0 1;", -9, 14);
        parishIs("week;", -9, 0);
        fresh(souls(2) + "grudge 0 1 5;");
        for (String word : new String[] {"sums", "su", "prid", "prides", "time", "timess", "owe", "owedd", "other", "otherss",
            "weeks", "wee", "sou", "souls", "leas[1,2]", "leasts[1,2]", "mos[1,2]", "mostt[1,2]", "Sum", "heir"}) {
            lawIs("1+" + word, -9, 2);
        }
        for (String word : new String[] {"forgiv 0;", "forgives 0;", "li 0;", "lies 0;", "drin 0 1;", "drinks 0 1;", "begi 0 1 0;",
            "begins 0 1 0;", "pas 0;", "passs 0;", "di 0;", "died 0;", "wee;", "weeks;", "weekweek;", "agai 1[];", "agains 1[];"}) {
            workIs(" " + word, -9, 1);
        }
        toldIs(6, 0);
    }

    /** "blanks (32) may stand ahead of all these, and at the end" */
    private void blanks() {
        x = new LychGate();
        parishIs("  soul  3  ;  soul  4  ;  grudge  0  1  5  ;  waits  0  1  ;  heir  0  1  ;  ", 1, -1);
        soulIs(0, 2, 2);
        lawIs("  least  [  (  sum  +  1  )  *  2  ,  most  [  1  -  2  ,  9  %  5  /  1  ]  ]  ", 1, -1);
        is("worth", 4, g -> g.would(5, 1, 0, 0, 0, 0, 0));
        workIs("  again  2  [  week  ;  die  1  ;  ]  ;  ", 3);
        bookIs("  0  1  ;  1  0  ;  ", 2, -1);
        for (int sign : new int[] {0, 9, 10, 13, 31, 33, 95, 127, 128, 160, 255}) {
            String other = String.valueOf((char) sign);
            parishIs(other + "soul 1;", -9, 0);
            parishIs("soul" + other + "1;", -9, 4);
            parishIs("soul 1" + other + ";", -9, 6);
            parishIs("soul 1;" + other, -9, 7);
            lawIs("1" + other + "+1", -9, 1);
            workIs("week;" + other, -9, 5);
            bookIs("0" + other + "1;", -9, 1);
        }
        parishIs("so ul 1;", -9, 0);
        parishIs("soul 1 0;", -9, 7);
        lawIs("le ast[1,2]", -9, 0);
        lawIs("1 2", -9, 2);
        workIs("wee k;", -9, 0);
    }

    /** "FAULTS, the first from the left, at its first byte" */
    private void firstFaultFromTheLeft() {
        x = new LychGate();
        parishIs("soul 0;souls 1;", -8, 5);
        parishIs("souls 1;soul 0;", -9, 0);
        parishIs("soul   100;", -8, 7);
        parishIs("soul 1;   heirs", -9, 10);
        parishIs(souls(2) + "grudge 0 0 99;", -8, 23);
        parishIs(souls(2) + "grudge 9 9 99;", -8, 21);
        parishIs(souls(2) + "grudge 0 1 99 99", -8, 25);
        parishIs(souls(9) + "soul 0;", -7, 56);
        parishIs(souls(8) + "waits 8 8;soul 1;", -8, 62);
        lawIs("1000+(((((((", -8, 0);
        lawIs("(((((((1000", -7, 6);
        lawIs("x1000", -9, 0);
        workIs("die 0;", -8, 4);
        workIs("weeks;die 0;", -9, 0);
        workIs(times("again 31[", 7), -8, 6);
        bookIs("0 9", -8, 0);
        fresh("soul 1;");
        bookIs("0 9 9", -8, 2);
        bookIs("0  x9", -9, 3);
    }

    /** "(at the length, if the text ends too early)" */
    private void faultAtTheLength() {
        x = new LychGate();
        String[] parishes = {"soul", "soul 1", "soul 1;soul 1;grudge", "soul 1;soul 1;grudge 0", "soul 1;soul 1;grudge 0 1",
            "soul 1;soul 1;grudge 0 1 5", "soul 1;soul 1;waits 0", "soul 1;soul 1;heir 0 1"};
        for (String text : parishes) {
            parishIs(text, -9, text.length());
            parishIs(text + "   ", -9, text.length() + 3);
        }
        String[] laws = {"", "1+", "1*", "(", "(1", "least", "least[", "least[1", "least[1,", "most[1,2"};
        for (String text : laws) {
            lawIs(text, -9, text.length());
            lawIs(text + "   ", -9, text.length() + 3);
        }
        fresh(souls(2) + "grudge 0 1 5;");
        String[] works = {"week", "forgive", "lie 0", "drink 0", "drink 0 1", "begin 0 1", "pass", "die", "again", "again 1",
            "again 1[", "again 1[week", "again 1[week;", "again 1[]"};
        for (String text : works) {
            workIs(text, -9, text.length());
            workIs(text + "   ", -9, text.length() + 3);
        }
        for (String text : new String[] {"0", "0 1"}) {
            bookIs(text, -9, text.length());
            bookIs(text + "   ", -9, text.length() + 3);
        }
        // What stands on the TAPE behind n bytes is not read.
        Checks.feed(x, "soul 1;");
        is("n of 6", -9, g -> g.parish(6));
        is("at n", 6, g -> g.fault());
        Checks.feed(x, "soul 12;");
        is("n of 6", -9, g -> g.parish(6));
        Checks.feed(x, "1000");
        is("n of 3", 1, g -> g.law(3));
        Checks.feed(x, "weeks;");
        is("n of 4", -9, g -> g.work(4));
        is("at n", 4, g -> g.fault());
    }

    /** "of one the least": a word that can't stand there is 1, were it one too many, too */
    private void ofOnePlaceTheLeastFault() {
        x = new LychGate();
        parishIs(SIXTY + "hair 0 1;", -9, 536);
        parishIs(SIXTY + ";", -9, 536);
        parishIs(SIXTY + "7", -9, 536);
        parishIs(SIXTY + "souls", -9, 536);
        parishIs(souls(8) + "souls 1;", -9, 56);
        parishIs(souls(8) + fourteenGrudges() + "grudges", -9, 238);
        fresh("soul 1;");
        lawIs("((((((leasts[1,2]", -9, 6);
        lawIs("((((((mos", -9, 6);
        lawIs("(((((([", -9, 6);
        lawIs("((((((", -9, 6);
        lawIs("((((((%", -9, 6);
        lawIs("((((((!", -9, 6);
        lawIs("((((((+", -9, 6);
        lawIs("((((((least", -7, 6);
        workIs(times("again 1[", 6) + "agains 1[", -9, 48);
        workIs(times("again 1[", 6) + "[", -9, 48);
        workIs(times("again 1[", 6) + "again", -7, 48);
    }

    // ---- promises 1 to 4, 6, 7 ----

    /** "A PARISH without CLAUSES." */
    private void newObject() {
        LychGate told = new LychGate();
        told.parish(0);
        c.sameText("a new object", all(told), all(new LychGate()));
        x = new LychGate();
        is("no faults", -1, g -> g.fault());
        is("no refusals", 0, g -> g.status(0));
        is("no refusals", 0, g -> g.status(1));
        for (int what = 0; what <= 11; what++) {
            toldIs(what, 0);
        }
        for (int what = 0; what <= 2; what++) {
            int k = what;
            is("count", 0, g -> g.count(k));
        }
    }

    /** "Twenty bytes come on the TAPE, of each number the highest first: how many there are" */
    private void feedTwentyBytes() {
        x = new LychGate();
        is("feed", 20, g -> g.feed(0x20736f75, 0x6c20313b, 0x736f756c, 0x20323b73, 0x6f756c20));
        is("feed", 40, g -> g.feed(0x333b736f, 0x756c2034, 0x3b736f75, 0x6c20353b, 0xffffffff));
        is("tape", 40, g -> g.count(1));
        is("parish", 0, g -> g.parish(36));
        for (int soul = 0; soul < 5; soul++) {
            soulIs(soul, 0, soul + 1);
        }
        // A byte of 128 to 255 is none of these signs: not as one less 128, nor as one below 0.
        int[] bytes = {0xa0, 0xb1, 0xf3, 0xbb, 0xff, 0x80};
        for (int value : bytes) {
            x = new LychGate();
            x.feed(0x736f756c, 0x20313b00 | value, value << 24, 0, 0);
            is("byte " + value, -9, g -> g.parish(8));
            is("its place", 7, g -> g.fault());
        }
    }

    /** "NONE, doing nothing, if there would be more than 600" */
    private void feedBeyondSixHundred() {
        fresh("soul 3;");
        String full = souls(8) + times(" ", 531) + "waits 7 0;   ";
        fed(full);
        is("full", 600, g -> g.count(1));
        leavesAll("feed beyond 600", -1, g -> g.feed(0x736f756c, 0x20393b20, 0, 0, 0));
        x.feed(0x736f756c, 0x20393b20, 0, 0, 0);
        is("the 600 are as fed", 0, g -> g.parish(600));
        soulIs(7, 2, 1);
        is("there is room then", 20, g -> g.feed(0, 0, 0, 0, 0));
        x = new LychGate();
        for (int i = 1; i <= 29; i++) {
            x.feed(0, 0, 0, 0, 0);
        }
        is("580 were fed", 580, g -> g.count(1));
        is("600 are no more than 600", 600, g -> g.feed(0, 0, 0, 0, 0));
        is("more", -1, g -> g.feed(0, 0, 0, 0, 0));
        is("more", -1, g -> g.feed(0, 0, 0, 0, 0));
    }

    /** "IllegalArgumentException: n is not 0 to the TAPE's bytes (it stays)"; "n to 150", "n to 60" */
    private void wrongNOfEachText() {
        scene(souls(2) + "grudge 0 1 5;", "7", "0 1;", "forgive 0;forgive 0;");
        for (int n : new int[] {-1, 1, 20, LEAST_INT, MOST_INT}) {
            refuses("parish " + n, ILLEGAL, g -> g.parish(n));
            refuses("law " + n, ILLEGAL, g -> g.law(n));
            refuses("work " + n, ILLEGAL, g -> g.work(n));
            refuses("book " + n, ILLEGAL, g -> g.book(n));
        }
        fed(" ");
        for (int n : new int[] {-1, 21, LEAST_INT, MOST_INT}) {
            refuses("parish " + n, ILLEGAL, g -> g.parish(n));
            refuses("law " + n, ILLEGAL, g -> g.law(n));
            refuses("work " + n, ILLEGAL, g -> g.work(n));
            refuses("book " + n, ILLEGAL, g -> g.book(n));
        }
        fed(times(" ", 600));
        for (int n : new int[] {-1, 601, LEAST_INT, MOST_INT}) {
            refuses("parish " + n, ILLEGAL, g -> g.parish(n));
        }
        refuses("law 151", ILLEGAL, g -> g.law(151));
        refuses("work 151", ILLEGAL, g -> g.work(151));
        refuses("book 61", ILLEGAL, g -> g.book(61));
        refuses("book 150", ILLEGAL, g -> g.book(150));
        refuses("law 600", ILLEGAL, g -> g.law(600));
        is("parish 600", 0, g -> g.parish(600));
    }

    /** "The first n bytes of the TAPE (empty then)" - also behind a FAULT, and whatever stood behind them */
    private void tapeIsEmptyThen() {
        fresh(souls(2));
        String[] texts = {"soul 1;soul 1;heir 0 1;", "soul 1;soul 0;"};
        for (String text : texts) {
            Checks.feed(x, text);
            is("parish", text.equals(texts[0]) ? 0 : -8, g -> g.parish(14));
            is("tape", 0, g -> g.count(1));
            is("feed", 20, g -> g.feed(0, 0, 0, 0, 0));
            x.book(0);
            is("tape", 0, g -> g.count(1));
        }
        soulIs(0, 3, -1);
        for (String text : new String[] {"17", "x7"}) {
            Checks.feed(x, text);
            is("law", text.equals("17") ? 1 : -9, g -> g.law(1));
            is("tape", 0, g -> g.count(1));
            Checks.feed(x, text);
            is("law of no bytes", -9, g -> g.law(0));
            is("tape", 0, g -> g.count(1));
        }
        for (String text : new String[] {"week;week;", "weekyweek;"}) {
            Checks.feed(x, text);
            is("work", text.equals("week;week;") ? 1 : -9, g -> g.work(5));
            is("tape", 0, g -> g.count(1));
        }
        for (String text : new String[] {"0 0;1 0;", "0 9;1 0;"}) {
            Checks.feed(x, text);
            is("book", text.equals("0 0;1 0;") ? 1 : -8, g -> g.book(4));
            is("tape", 0, g -> g.count(1));
        }
    }

    /** "The first n bytes .. are the PARISH (no LAW, BOOK, IMAGES, nothing to undo): how many GRUDGES" */
    private void parishDropsAll() {
        scene(souls(3) + "grudge 0 1 5;waits 0 2;heir 0 1;", "7", "0 1;", "forgive 0;begin 0 1 2;", "die 2;lie 0;pass 1;pass 1;week;");
        toldIs(11, 1);
        x.image();
        x.image();
        is("works", 2, g -> g.count(2));
        is("grudges", 2, g -> Checks.parish(g, souls(2) + "grudge 1 0 5;grudge 0 1 25;"));
        LychGate told = new LychGate();
        Checks.parish(told, souls(2) + "grudge 1 0 5;grudge 0 1 25;");
        c.sameText("as if told to a new one", all(told), all(x));
        is("nothing to undo", -1, g -> g.undo());
        is("no IMAGES", -1, g -> g.restore());
        grudgeIs(1, 5, 3);
        is("an empty one", 0, g -> g.parish(0));
        c.sameText("as a new one", all(new LychGate()), all(x));
        is("three IMAGES again", 1, g -> g.image());
        is("three IMAGES again", 2, g -> g.image());
        is("three IMAGES again", 3, g -> g.image());
        is("dropped", 0, g -> g.parish(0));
        is("and again", 1, g -> g.image());
    }

    /** "or the FAULT less 10 (all stays)" */
    private void parishWithAFaultKeepsAll() {
        String[] texts = {"soul 1;souls", "soul 1;soul 0;", souls(9)};
        int[] due = {-9, -8, -7};
        int[] place = {7, 12, 56};
        for (int i = 0; i < texts.length; i++) {
            scene(souls(3) + "grudge 0 1 5;", "7", "0 1;", "lie 0;lie 0;", "pass 2;pass 2;");
            x.image();
            String before = all(x).replace("fault=-1", "fault=" + place[i]);
            parishIs(texts[i], due[i], place[i]);
            c.sameText("all stays", before, all(x));
            is("undo", 1, g -> g.undo());
            is("restore", 0, g -> g.restore());
            toldIs(9, 4);
        }
    }

    /** "Likewise the LAW (n to 150): 1" */
    private void lawWithAFaultKeepsAll() {
        String[] texts = {"1+", "1+1000", "((((((("};
        int[] due = {-9, -8, -7};
        int[] place = {2, 2, 6};
        for (int i = 0; i < texts.length; i++) {
            scene(souls(3) + "grudge 0 1 5;", "7", "0 1;", "lie 0;lie 0;");
            x.image();
            String before = all(x).replace("fault=-1", "fault=" + place[i]);
            lawIs(texts[i], due[i], place[i]);
            c.sameText("all stays", before, all(x));
        }
        scene(souls(3) + "grudge 0 1 5;", "7", "0 1;", "lie 0;lie 0;");
        x.image();
        String before = all(x).replace("would=7/7", "would=3/3");
        lawIs("3", 1, -1);
        c.sameText("all but the LAW stays", before, all(x));
    }

    /** "Likewise the BOOK (n to 60): how many lines" */
    private void bookWithAFaultKeepsAll() {
        String[] texts = {"1 0;1", "1 0;1 0;", "1 0;0 9;"};
        int[] due = {-8, -8, -8};
        int[] place = {4, 4, 6};
        for (int i = 0; i < texts.length; i++) {
            scene(souls(3) + "grudge 0 1 5;", "7", "1 1;", "lie 0;lie 0;");
            x.image();
            is("sure", 1, g -> g.lied(2));
            String before = all(x).replace("fault=-1", "fault=" + place[i]);
            bookIs(texts[i], due[i], place[i]);
            c.sameText("all stays", before, all(x));
        }
        bookIs("1 0;2", -9, 5);
        is("sure", 1, g -> g.lied(2));
        toldIs(10, 1);
        bookIs("1 0;2 0;", 2, -1);
        is("not the line of the one ahead", 0, g -> g.lied(1));
        toldIs(10, 2);
        is("IMAGES stay", 1, g -> g.count(0));
        is("WORKS stay", 1, g -> g.count(2));
        toldIs(11, 1);
    }

    /** "The place of the FAULT of the latest text; NONE without." */
    private void faultOfTheLatestText() {
        x = new LychGate();
        is("ahead of any", -1, g -> g.fault());
        parishIs("soul", -9, 4);
        is("refused", ILLEGAL, g -> g.parish(1));
        is("refused", ILLEGAL, g -> g.told(12));
        x.feed(0, 0, 0, 0, 0);
        x.undo();
        x.restore();
        is("it stays", 4, g -> g.fault());
        is("it stays, asked twice", 4, g -> g.fault());
        is("the next text", 0, g -> g.parish(0));
        is("has none", -1, g -> g.fault());
        lawIs("", -9, 0);
        bookIs("", 0, -1);
        bookIs("0", -8, 0);
        lawIs("1", 1, -1);
        workIs("  x", -9, 2);
        workIs("", 0, -1);
        x.image();
        x.restore();
        x.undo();
        is("none still", -1, g -> g.fault());
    }
}
