import java.math.BigInteger;

/** The document's sentences on what is asked that name an edge, each with a test of its own: part 3, promises 9 to 39. */
public final class AskEdgeTest extends Bench {
    /** Each kind of state in one: GRUDGES forgiven, gone and an heir's, one dead, one who waits, a LAW, a BOOK. */
    private static final String PARISH = "soul 3;soul 1;soul 5;soul 2;soul 9;grudge 0 1 12;grudge 1 0 5;grudge 2 0 20;grudge 3 2 9;"
        + "grudge 4 2 7;waits 0 1;waits 1 0;heir 4 3;heir 3 1;heir 0 3;";
    private static final String LAW = "sum/3+others";
    private static final String BOOK = "0 1;";
    private static final String[] WORKS = {"lie 2;pass 3;", "die 4;pass 3;"};

    public static void main(String[] args) {
        AskEdgeTest t = new AskEdgeTest();
        t.askedNothingStaysChanged();
        t.toldBounds();
        t.soulBounds();
        t.soulEdges();
        t.grudgeBounds();
        t.wouldBounds();
        t.canEdges();
        t.leastBounds();
        t.leastNoughtAndNone();
        t.leastOfAlikeOnes();
        t.leastOfWhatCanBeForgiven();
        t.leastWithSwings();
        t.leastFull();
        t.orderEdges();
        t.orderTheFirstOfAll();
        t.stuckEdges();
        t.liedEdges();
        t.liedOfForgivers();
        t.liedEightSouls();
        t.askEdges();
        t.askAtTheWorst();
        t.askOfSeven();
        t.wayEdges();
        t.ringsEdges();
        t.evenEdges();
        t.netEdges();
        t.oddsEdges();
        t.stepsEdges();
        t.breadEdges();
        t.breadBounds();
        t.worstEdges();
        t.freeEdges();
        t.readyEdges();
        t.moreEdges();
        t.proudestEdges();
        t.estateEdges();
        t.mutualEdges();
        t.onesEdges();
        t.yearBounds();
        t.yearOfSomeDays();
        t.yearFromNow();
        t.yearBeyond400();
        t.yearWithoutGrudges();
        t.yearDrawWraps();
        t.spanBounds();
        t.spanEdges();
        t.statusEdges();
        t.refusedOnce();
        t.countEdges();
        t.fiveHundredTwelveCalls();
        t.c.end();
    }

    private void sceneOfAll() {
        scene(PARISH, LAW, BOOK, WORKS);
    }

    /** "Asked, nothing stays changed." */
    private void askedNothingStaysChanged() {
        sceneOfAll();
        x.image();
        String before = all(x);
        long sum = 0;
        for (int n = 0; n <= 99; n += 9) {
            sum += x.least(n, 0) + x.least(n, 1) + x.bread(2, 31, n) + x.steps(n, 99 - n, 2);
        }
        for (int i = 0; i < 5; i++) {
            sum += x.soul(i, 4) + x.grudge(i, 5) + (x.can(i) ? 1 : 0) + x.order(i) + x.way(i, 4 - i) + x.net(i);
            sum += x.more(i) + x.estate(i) + x.odds(i, i, 0);
        }
        for (int what = 0; what <= 1; what++) {
            sum += x.lied(what) + x.ask(what) + x.worst(what) + x.ready(what) + x.proudest(what) + x.mutual(what) + x.ones(what);
        }
        for (int what = 0; what <= 2; what++) {
            sum += x.year(9, 3, 96, what) + x.span(5, 20, 3, 96, what);
        }
        sum += x.stuck() + x.rings() + x.even() + x.free();
        c.same("something was asked", 1, sum != 0 ? 1 : 0);
        c.sameText("nothing stays changed", before, all(x));
        is("undo", 1, g -> g.undo());
        is("restore", 0, g -> g.restore());
    }

    // ---- 9 to 13 ----

    /** "IllegalArgumentException: another what (so below)." */
    private void toldBounds() {
        sceneOfAll();
        int[] due = {5, 5, 0, 6, 15, 15, 4, 4, 4, 8, 1, 1};
        for (int what = 0; what < due.length; what++) {
            toldIs(what, due[what]);
        }
        for (int what : new int[] {-1, 12, LEAST_INT, MOST_INT}) {
            refuses("told " + what, ILLEGAL, g -> g.told(what));
        }
    }

    /** "NoSuchElementException: no such SOUL, GRUDGE (so below, ahead of others)." */
    private void soulBounds() {
        sceneOfAll();
        for (int soul : new int[] {-1, 5, 6, 7, 8, 32, LEAST_INT, MOST_INT}) {
            refuses("soul " + soul, NO_SUCH, g -> g.soul(soul, 0));
            refuses("soul " + soul + " of a wrong what", NO_SUCH, g -> g.soul(soul, 7));
            refuses("net " + soul, NO_SUCH, g -> g.net(soul));
            refuses("more " + soul, NO_SUCH, g -> g.more(soul));
            refuses("estate " + soul, NO_SUCH, g -> g.estate(soul));
            refuses("way from " + soul, NO_SUCH, g -> g.way(soul, 0));
            refuses("way to " + soul, NO_SUCH, g -> g.way(0, soul));
            refuses("way of " + soul, NO_SUCH, g -> g.way(soul, soul));
            refuses("bread of " + soul, NO_SUCH, g -> g.bread(soul, 1, 1));
            refuses("bread of " + soul + " of a wrong n", NO_SUCH, g -> g.bread(soul, 1, 100));
            refuses("bread of " + soul + " among others", NO_SUCH, g -> g.bread(soul, 32, 1));
        }
        for (int what : new int[] {-1, 7, LEAST_INT, MOST_INT}) {
            refuses("soul 0 " + what, ILLEGAL, g -> g.soul(0, what));
            refuses("soul 4 " + what, ILLEGAL, g -> g.soul(4, what));
        }
        fresh("");
        refuses("soul 0 of none", NO_SUCH, g -> g.soul(0, 0));
        refuses("net 0 of none", NO_SUCH, g -> g.net(0));
        refuses("bread 0 of none", NO_SUCH, g -> g.bread(0, 0, 0));
        refuses("way 0 of none", NO_SUCH, g -> g.way(0, 0));
    }

    /** "Of a SOUL: .. 3 its heir (NONE), 4 sums it holds together, 5 .. against it together, 6 how often it forgave (lies, too)" */
    private void soulEdges() {
        sceneOfAll();
        int[][] due = {{3, 0, 2, 3, 12, 25, 0}, {1, 0, 1, -1, 5, 12, 0}, {5, 1, 0, -1, 20, 12, 1}, {2, 1, 0, 1, 12, 0, 0},
            {9, 0, 0, 3, 0, 0, 0}};
        // 4 died: its GRUDGE against 2 would go to 3, who holds one already: it is gone.
        due[2][5] = 9;
        due[3][4] = 9;
        for (int soul = 0; soul < due.length; soul++) {
            for (int what = 0; what <= 6; what++) {
                soulIs(soul, what, due[soul][what]);
            }
        }
        fresh(souls(8) + "grudge 0 1 30;grudge 0 2 30;grudge 0 3 30;grudge 0 4 30;grudge 0 5 30;grudge 0 6 30;grudge 0 7 30;"
            + "grudge 2 1 30;grudge 3 1 30;grudge 4 1 30;grudge 5 1 30;grudge 6 1 30;grudge 7 1 30;");
        soulIs(0, 4, 210);
        soulIs(1, 5, 210);
        soulIs(0, 5, 0);
        soulIs(1, 4, 0);
        workIs("again 3[forgive 0;lie 1;drink 0 1;drink 0 2;];", 12);
        soulIs(0, 6, 6);
    }

    /** "Of a GRUDGE: .. 2 S by now (0: it is gone), 3 .., 4 .., 5 WORTH (0: it is gone)" */
    private void grudgeBounds() {
        sceneOfAll();
        int[][] due = {{0, 1, 12, 0, 0, 4}, {1, 0, 5, 0, 0, 2}, {2, 0, 20, 1, 1, 7}, {3, 2, 9, 0, 0, 3}, {4, 2, 0, 0, 0, 0}};
        for (int grudge = 0; grudge < due.length; grudge++) {
            for (int what = 0; what <= 5; what++) {
                grudgeIs(grudge, what, due[grudge][what]);
            }
        }
        for (int grudge : new int[] {-1, 5, 6, 13, 14, 32, LEAST_INT, MOST_INT}) {
            refuses("grudge " + grudge, NO_SUCH, g -> g.grudge(grudge, 0));
            refuses("grudge " + grudge + " of a wrong what", NO_SUCH, g -> g.grudge(grudge, 6));
            refuses("can " + grudge, NO_SUCH, g -> g.can(grudge) ? 1 : 0);
        }
        for (int what : new int[] {-1, 6, LEAST_INT, MOST_INT}) {
            refuses("grudge 0 " + what, ILLEGAL, g -> g.grudge(0, what));
            refuses("grudge 4 " + what, ILLEGAL, g -> g.grudge(4, what));
        }
        fresh("soul 1;soul 1;");
        refuses("grudge 0 of none", NO_SUCH, g -> g.grudge(0, 0));
        refuses("can 0 of none", NO_SUCH, g -> g.can(0) ? 1 : 0);
    }

    /** "sum (0 to 30), pride (1 to 9), times (0 to 999), owed (0 to 30), others (0 to 7), week (0 to 400), soul (0 to 7)" */
    private void wouldBounds() {
        int[] least = {0, 1, 0, 0, 0, 0, 0};
        int[] most = {30, 9, 999, 30, 7, 400, 7};
        String[] words = {"sum-20", "pride", "times-989", "owed-20", "others", "week-390", "soul"};
        int[] worth = {10, 9, 10, 10, 7, 10, 7};
        for (int i = 0; i < 7; i++) {
            scene(souls(2) + "grudge 0 1 5;", words[i], "");
            int k = i;
            int[] some = {3, 3, 3, 3, 3, 3, 3};
            some[i] = most[i];
            is("the most " + words[i], worth[i], g -> wouldBy(g, some));
            some[i] = least[i];
            is("the least " + words[i], i == 1 ? 1 : 0, g -> wouldBy(g, some));
            is("all least " + words[i], i == 1 ? 1 : 0, g -> wouldBy(g, least));
            is("all most " + words[i], worth[i], g -> wouldBy(g, most));
            for (int wrong : new int[] {least[i] - 1, most[i] + 1, LEAST_INT, MOST_INT}) {
                refuses("would by " + words[i] + " " + wrong, ILLEGAL, g -> wouldBy(g, with(some, k, wrong)));
            }
        }
        scene("", "", "");
        refuses("all wrong is refused once", ILLEGAL, g -> g.would(-1, -1, -1, -1, -1, -1, -1));
        is("without SOULS", 4, g -> g.would(30, 1, 0, 0, 0, 0, 7));
    }

    private static int[] with(int[] row, int at, int value) {
        int[] other = row.clone();
        other[at] = value;
        return other;
    }

    private static int wouldBy(LychGate gate, int[] f) {
        return gate.would(f[0], f[1], f[2], f[3], f[4], f[5], f[6]);
    }

    /** "Whether forgive could be done now." */
    private void canEdges() {
        sceneOfAll();
        boolean[] due = {false, false, false, true, false};
        for (int grudge = 0; grudge < due.length; grudge++) {
            canIs(grudge, due[grudge]);
            LychGate gate = madeAgain();
            c.same("forgive is done as can says", due[grudge] ? 1 : 0, Checks.work(gate, "forgive " + grudge + ";"));
        }
    }

    // ---- 14 ----

    /** "LEAST for n (0 to 99)" */
    private void leastBounds() {
        sceneOfAll();
        for (int n : new int[] {-1, 100, LEAST_INT, MOST_INT}) {
            refuses("least " + n, ILLEGAL, g -> g.least(n, 0));
        }
        for (int what : new int[] {-1, 2, LEAST_INT, MOST_INT}) {
            refuses("least of what " + what, ILLEGAL, g -> g.least(1, what));
        }
        fresh("");
        is("of no GRUDGES for 0", 0, g -> g.least(0, 0));
        is("of no GRUDGES for 0", 0, g -> g.least(0, 1));
        is("of no GRUDGES for 1", -1, g -> g.least(1, 0));
        is("of no GRUDGES for 99", -1, g -> g.least(99, 1));
    }

    private void leastIs(int n, int pride, int bits) {
        is("least pride for " + n, pride, g -> g.least(n, 0));
        is("least bits for " + n, bits, g -> g.least(n, 1));
    }

    /** "whose WORTHS as now and the SWINGS together are n or more .. NONE" */
    private void leastNoughtAndNone() {
        fresh("soul 2;soul 9;grudge 0 1 20;grudge 1 0 10;");
        // Worths 3 and 2.
        leastIs(0, 0, 0);
        leastIs(1, 2, 1);
        leastIs(3, 2, 1);
        leastIs(4, 11, 3);
        leastIs(5, 11, 3);
        leastIs(6, -1, -1);
        leastIs(99, -1, -1);
        lawIs("0", 1, -1);
        leastIs(0, 0, 0);
        leastIs(1, -1, -1);
    }

    /** "that by which PRIDE of their A (each time) together is least; of alike ones the least bits" */
    private void leastOfAlikeOnes() {
        // By PRIDES 2 2 1 1, each worth 1.
        fresh("soul 2;soul 1;soul 2;grudge 0 1 1;grudge 2 1 1;grudge 1 0 1;grudge 1 2 1;");
        leastIs(1, 1, 4);
        leastIs(2, 2, 12);
        leastIs(3, 4, 13);
        leastIs(4, 6, 15);
        // One of PRIDE 2 and worth 2 against two of PRIDE 1 and worth 1: alike; the least bits.
        fresh("soul 2;soul 1;soul 1;grudge 0 1 10;grudge 1 0 1;grudge 2 0 1;");
        leastIs(2, 2, 1);
        fresh("soul 2;soul 1;soul 1;grudge 1 0 1;grudge 2 0 1;grudge 0 1 10;");
        leastIs(2, 2, 3);
        // More than n may be the cheapest; none that is not needed is among them.
        fresh("soul 9;soul 1;grudge 0 1 1;grudge 1 0 30;");
        leastIs(1, 1, 2);
        leastIs(4, 1, 2);
        leastIs(5, 10, 3);
        // One of no worth is never among them.
        scene("soul 1;soul 1;soul 1;grudge 0 1 1;grudge 1 0 2;grudge 2 0 3;", "sum/2", "");
        leastIs(1, 1, 2);
        leastIs(2, 2, 6);
        leastIs(3, -1, -1);
    }

    /** "of all sets of GRUDGES that are there, not forgiven, and whose A CAN BEGIN" */
    private void leastOfWhatCanBeForgiven() {
        String parish = "soul 1;soul 2;soul 3;soul 4;grudge 0 1 1;grudge 1 0 1;grudge 2 0 1;grudge 3 0 1;waits 1 0;";
        fresh(parish);
        leastIs(1, 1, 1);
        leastIs(2, 4, 5);
        leastIs(3, 8, 13);
        leastIs(4, -1, -1);
        scene(parish, "", "", "forgive 0;pass 0;");
        leastIs(1, 2, 2);
        leastIs(3, 9, 14);
        leastIs(4, -1, -1);
        scene(parish, "", "", "die 0;");
        leastIs(0, 0, 0);
        leastIs(1, -1, -1);
        // "WORTHS as now": by the times, week and others of now.
        scene("soul 1;soul 2;grudge 0 1 1;grudge 1 0 1;", "times+week", "", "forgive 0;forgive 1;drink 0 1;pass 0;pass 1;");
        leastIs(1, 1, 1);
        leastIs(2, 3, 3);
        leastIs(3, -1, -1);
    }

    private void leastWithSwings() {
        scene("soul 1;soul 1;soul 2;grudge 0 1 30;grudge 2 1 10;", "", "", "forgive 0;");
        toldIs(3, 4);
        leastIs(4, 0, 0);
        leastIs(5, 2, 2);
        leastIs(6, 2, 2);
        leastIs(7, -1, -1);
        // More SWINGS than 99.
        String five = "grudge 0 1 1;grudge 0 2 1;grudge 0 3 1;grudge 0 4 1;grudge 0 5 1;";
        scene(souls(6) + five, "20", "", "forgive 0;forgive 1;forgive 2;forgive 3;forgive 4;");
        toldIs(3, 100);
        leastIs(99, 0, 0);
        scene(souls(6) + five, "20", "", "forgive 0;forgive 1;forgive 2;forgive 3;");
        leastIs(80, 0, 0);
        leastIs(81, 1, 16);
        leastIs(99, 1, 16);
    }

    private void leastFull() {
        scene(times("soul 9;", 8) + fourteenGrudges(), "7", "");
        leastIs(98, 126, 16383);
        leastIs(99, -1, -1);
        leastIs(91, 117, 8191);
        leastIs(92, 126, 16383);
        lawIs("8", 1, -1);
        leastIs(99, 117, 8191);
        lawIs("20", 1, -1);
        leastIs(99, 45, 31);
    }

    // ---- 15, 16 ----

    private void orderIs(int... due) {
        for (int k = 0; k < due.length; k++) {
            int at = k;
            is("order " + k, due[k], g -> g.order(at));
        }
        for (int k : new int[] {due.length, 8, 9, 32, MOST_INT}) {
            is("order " + k, -1, g -> g.order(k));
        }
    }

    /** "the k-th SOUL (from 0 on); NONE: there is none, or someone is STUCK. IllegalArgumentException: k below 0." */
    private void orderEdges() {
        fresh("");
        orderIs();
        fresh(souls(1));
        orderIs(0);
        refuses("order -1", ILLEGAL, g -> g.order(-1));
        refuses("order of the least", ILLEGAL, g -> g.order(LEAST_INT));
        fresh(souls(8));
        orderIs(0, 1, 2, 3, 4, 5, 6, 7);
        scene(souls(3), "", "", "die 0;", "die 2;");
        orderIs(1);
        scene(souls(2), "", "", "die 0;die 1;");
        orderIs();
        fresh(souls(4) + "waits 2 3;waits 3 2;");
        orderIs();
        refuses("order -1 where someone is stuck", ILLEGAL, g -> g.order(-1));
    }

    /** "each behind all living ones it waits for (what was begun, seen to, is not asked), of all such rows the first" */
    private void orderTheFirstOfAll() {
        fresh(souls(8) + "waits 0 1;waits 1 2;waits 2 3;waits 3 4;waits 4 5;waits 5 6;waits 6 7;");
        orderIs(7, 6, 5, 4, 3, 2, 1, 0);
        fresh(souls(5) + "waits 0 4;waits 1 4;waits 2 0;");
        orderIs(3, 4, 0, 1, 2);
        scene(souls(5) + "waits 0 4;waits 1 4;waits 2 0;waits 3 0;", "", "", "die 0;");
        orderIs(2, 3, 4, 1);
        // A ring by one who is dead is none.
        scene(souls(3) + "waits 0 1;waits 1 0;", "", "", "die 1;");
        orderIs(0, 2);
        scene(souls(3) + "grudge 1 2 5;waits 0 1;", "", "", "forgive 0;");
        soulIs(0, 1, 1);
        orderIs(1, 0, 2);
        scene(souls(3) + "waits 0 1;waits 1 0;", "", "", "begin 0 1 2;");
        soulIs(0, 1, 1);
        orderIs();
    }

    /** "those who are in no such row because they, or one they wait for, or one that one waits for, .., wait in a ring" */
    private void stuckEdges() {
        fresh("");
        is("nobody", 0, g -> g.stuck());
        fresh(souls(8) + "waits 0 1;waits 1 2;waits 2 3;waits 3 4;waits 4 5;waits 5 6;waits 6 7;");
        is("a chain of eight", 0, g -> g.stuck());
        fresh(souls(8) + "waits 0 1;waits 1 2;waits 2 3;waits 3 4;waits 4 5;waits 5 6;waits 6 7;waits 7 0;");
        is("a ring of eight", 255, g -> g.stuck());
        workIs("die 3;", 1);
        is("a ring that a death broke", 0, g -> g.stuck());
        fresh(souls(8) + "waits 0 1;waits 1 2;waits 2 3;waits 3 4;waits 4 5;waits 5 6;waits 6 7;waits 7 6;");
        is("all behind a ring of two", 255, g -> g.stuck());
        fresh(souls(5) + "waits 0 1;waits 1 0;waits 1 2;waits 2 3;");
        is("those a ring waits for are not", 3, g -> g.stuck());
        scene(souls(5) + "grudge 0 4 5;waits 0 1;waits 1 0;waits 2 1;", "", "", "begin 0 1 4;forgive 0;");
        is("what was begun, seen to, is not asked", 7, g -> g.stuck());
        workIs("die 2;", 1);
        is("the dead are not stuck", 3, g -> g.stuck());
    }

    // ---- 17, 18 ----

    private void liedIs(int many, int first, int sure) {
        is("lied: how many", many, g -> g.lied(0));
        is("lied: the first", first, g -> g.lied(1));
        is("lied: sure", sure, g -> g.lied(2));
    }

    /** "LIED: 0 how many sets, 1 the first (NONE), 2 SURE (bits; 0 without)." */
    private void liedEdges() {
        sceneOfAll();
        for (int what : new int[] {-1, 3, LEAST_INT, MOST_INT}) {
            refuses("lied " + what, ILLEGAL, g -> g.lied(what));
        }
        fresh("");
        liedIs(1, 0, 0);
        fresh(souls(1));
        liedIs(2, 0, 0);
        bookIs("0 0;", 1, -1);
        liedIs(2, 0, 0);
        bookIs("0 1;", 1, -1);
        liedIs(0, -1, 0);
        scene(souls(2), "", "", "die 0;die 1;");
        liedIs(1, 0, 0);
        scene(souls(3), "", "", "die 1;");
        liedIs(4, 0, 0);
    }

    /** "sets of living SOULS by which .. each line would be right (of those whose GRUDGE against B is forgiven)" */
    private void liedOfForgivers() {
        String parish = souls(4) + "grudge 0 3 5;grudge 1 3 5;grudge 2 3 5;grudge 0 2 5;grudge 3 2 5;heir 0 1;";
        scene(parish, "", "3 0;", "forgive 0;lie 1;");
        liedIs(4, 0, 0);
        bookIs("3 1;", 1, -1);
        liedIs(8, 1, 0);
        bookIs("3 2;", 1, -1);
        liedIs(4, 3, 3);
        bookIs("3 3;", 1, -1);
        liedIs(0, -1, 0);
        // Each line is to be right.
        workIs("forgive 3;lie 4;", 2);
        bookIs("3 1;2 1;", 2, -1);
        // Of 0, 1 one and of 0, 3 one: 0 alone, or 1 and 3; 2 as it likes.
        liedIs(4, 1, 0);
        bookIs("3 2;2 1;", 2, -1);
        liedIs(2, 3, 3);
        // A GRUDGE drunk away is not forgiven; nor is one behind a week.
        workIs("drink 3 0;", 1);
        bookIs("3 1;", 1, -1);
        liedIs(8, 2, 2);
        workIs("week;", 1);
        liedIs(0, -1, 0);
        bookIs("3 0;", 1, -1);
        liedIs(16, 0, 0);
        // The heir has forgiven nothing yet.
        scene(souls(4) + "grudge 0 3 5;heir 0 1;", "", "3 0;", "lie 0;", "die 0;");
        liedIs(8, 0, 0);
        bookIs("3 1;", 1, -1);
        liedIs(0, -1, 0);
    }

    private void liedEightSouls() {
        fresh(souls(8) + "grudge 1 0 1;grudge 2 0 1;grudge 3 0 1;grudge 4 0 1;grudge 5 0 1;grudge 6 0 1;grudge 7 0 1;");
        liedIs(256, 0, 0);
        workIs("forgive 0;forgive 1;forgive 2;forgive 3;forgive 4;forgive 5;forgive 6;", 7);
        int[] many = {2, 14, 42, 70, 70, 42, 14, 2, 0};
        int[] first = {0, 2, 6, 14, 30, 62, 126, 254, -1};
        for (int n = 0; n <= 8; n++) {
            bookIs("0 " + n + ";", 1, -1);
            liedIs(many[n], first[n], n == 7 ? 254 : 0);
        }
    }

    /** "ASK: 0 the SOUL, 1 how many sets are left at the worst; NONE both: all SOULS are in lines, or there are none." */
    private void askEdges() {
        sceneOfAll();
        for (int what : new int[] {-1, 2, LEAST_INT, MOST_INT}) {
            refuses("ask " + what, ILLEGAL, g -> g.ask(what));
        }
        fresh("");
        askIs(-1, -1);
        fresh(souls(1));
        askIs(0, 2);
        bookIs("0 0;", 1, -1);
        askIs(-1, -1);
        fresh(souls(8));
        bookIs("0 0;1 0;2 0;3 0;4 0;5 0;6 0;", 7, -1);
        askIs(7, 256);
        bookIs("0 0;1 0;2 0;3 0;4 0;5 0;6 0;7 0;", 8, -1);
        askIs(-1, -1);
        // No set is right: none is left by whomever one asks.
        bookIs("0 1;1 0;", 2, -1);
        askIs(2, 0);
    }

    private void askIs(int soul, int left) {
        is("ask: whom", soul, g -> g.ask(0));
        is("ask: left at the worst", left, g -> g.ask(1));
    }

    /** "the SOUL in no line by which, however many lied of those who forgave it, fewest such sets are left at the worst .. the first" */
    private void askAtTheWorst() {
        // Nobody forgave 0; one forgave 1; two forgave 2; three forgave 3.
        scene(souls(5) + "grudge 0 1 5;grudge 0 2 5;grudge 1 2 5;grudge 0 3 5;grudge 1 3 5;grudge 2 3 5;grudge 0 4 5;grudge 2 4 5;",
            "", "");
        askIs(0, 32);
        workIs("forgive 0;", 1);
        askIs(1, 16);
        workIs("forgive 1;forgive 2;", 2);
        // Of two: 1, 2, 1 of 4: 16 are left at the worst, as by 1.
        askIs(1, 16);
        workIs("forgive 3;forgive 4;forgive 5;", 3);
        // Of three: 1, 3, 3, 1 of 8: 12.
        askIs(3, 12);
        bookIs("3 0;", 1, -1);
        // 0, 1, 2 did not lie: 3 and 4 as they like.
        askIs(0, 4);
        bookIs("3 1;", 1, -1);
        // One of 0, 1, 2 lied: 0 lied in 4 of 12, so 8 are left by 1; by 2: 0 or 1 lied in 8.
        askIs(1, 8);
        bookIs("3 1;1 0;", 2, -1);
        // 1 or 2 lied: by 2, 1 lied in 4 of 8.
        askIs(2, 4);
        workIs("forgive 6;forgive 7;", 2);
        bookIs("3 1;1 0;2 1;", 3, -1);
        askIs(0, 4);
    }

    /** Seven forgave the last SOUL: none to all of them may have lied. */
    private void askOfSeven() {
        fresh(souls(8) + "grudge 0 7 1;grudge 1 7 1;grudge 2 7 1;grudge 3 7 1;grudge 4 7 1;grudge 5 7 1;grudge 6 7 1;");
        workIs("forgive 0;forgive 1;forgive 2;forgive 3;forgive 4;forgive 5;forgive 6;", 7);
        askIs(7, 70);
        fresh(souls(8) + "grudge 7 0 1;grudge 1 0 1;grudge 2 0 1;grudge 3 0 1;grudge 4 0 1;grudge 5 0 1;grudge 6 0 1;");
        workIs("forgive 0;forgive 1;forgive 2;forgive 3;forgive 4;forgive 5;forgive 6;", 7);
        askIs(0, 70);
        bookIs("0 7;", 1, -1);
        askIs(1, 2);
        // All seven lied in one set alone, in which nobody lied to 1: that is no set of 1's.
        fresh(souls(8) + "grudge 7 0 1;grudge 1 0 1;grudge 2 0 1;grudge 3 0 1;grudge 4 0 1;grudge 5 0 1;grudge 6 0 1;grudge 0 1 1;");
        workIs("forgive 0;forgive 1;forgive 2;forgive 3;forgive 4;forgive 5;forgive 6;forgive 7;", 8);
        bookIs("0 7;", 1, -1);
        askIs(1, 1);
    }

    // ---- 19 to 22 ----

    /** "WAY of two SOULS: the fewest GRUDGES .. from the one to the other one (0: one SOUL); NONE" */
    private void wayEdges() {
        fresh(souls(8) + "grudge 0 1 1;grudge 1 2 1;grudge 2 3 1;grudge 3 4 1;grudge 4 5 1;grudge 5 6 1;grudge 6 7 1;");
        for (int from = 0; from < 8; from++) {
            for (int to = 0; to < 8; to++) {
                int a = from;
                int b = to;
                is("way " + a + " " + b, b >= a ? b - a : -1, g -> g.way(a, b));
            }
        }
        workIs("forgive 3;", 1);
        is("a forgiven one is there", 7, g -> g.way(0, 7));
        workIs("die 3;", 1);
        is("a gone one is not", -1, g -> g.way(0, 4));
        is("a dead SOUL is one SOUL", 0, g -> g.way(3, 3));
        fresh(souls(5) + "grudge 0 1 1;grudge 1 2 1;grudge 2 4 1;grudge 0 3 1;grudge 3 4 1;");
        is("the fewest", 2, g -> g.way(0, 4));
        scene(souls(4) + "grudge 0 1 5;grudge 1 2 5;heir 1 3;", "", "", "die 1;");
        is("from the heir", 1, g -> g.way(3, 2));
        is("not by him who died", -1, g -> g.way(0, 2));
    }

    /** "RINGS: SOULS from whom there is a WAY of 1 or more back." */
    private void ringsEdges() {
        fresh("");
        is("none", 0, g -> g.rings());
        fresh(souls(8));
        is("a WAY of 0 is none", 0, g -> g.rings());
        String chain = souls(8) + "grudge 0 1 1;grudge 1 2 1;grudge 2 3 1;grudge 3 4 1;grudge 4 5 1;grudge 5 6 1;grudge 6 7 1;";
        fresh(chain);
        is("a chain", 0, g -> g.rings());
        fresh(chain + "grudge 7 0 1;");
        is("a ring of eight", 255, g -> g.rings());
        workIs("die 7;", 1);
        is("broken", 0, g -> g.rings());
        fresh(chain + "grudge 1 0 1;grudge 7 6 1;");
        is("two rings of two", 3 + 192, g -> g.rings());
        workIs("forgive 0;", 1);
        is("forgiven ones are there", 3 + 192, g -> g.rings());
    }

    /** "EVEN: .. the fewest payments .. by which nobody owes, is owed, in all, anything" */
    private void evenEdges() {
        evenIs(0, "");
        evenIs(0, souls(1));
        evenIs(0, souls(8));
        evenIs(1, souls(2) + "grudge 0 1 30;");
        evenIs(0, souls(2) + "grudge 0 1 30;grudge 1 0 30;");
        evenIs(0, souls(3) + "grudge 0 1 7;grudge 1 2 7;grudge 2 0 7;");
        evenIs(1, souls(3) + "grudge 0 1 7;grudge 1 2 7;");
        evenIs(2, souls(3) + "grudge 0 1 7;grudge 1 2 8;");
        // One is owed 1 by each of seven, or owes it: seven payments.
        String one = souls(8);
        for (int i = 1; i < 8; i++) {
            one += "grudge 0 " + i + " " + i + ";";
        }
        evenIs(7, one);
        // Four pairs; and eight among whom no smaller group is even.
        evenIs(4, souls(8) + "grudge 0 1 1;grudge 2 3 2;grudge 4 5 3;grudge 6 7 4;");
        // Nets 5, 4, -3, -6 and 1, -1: 5+1-6, 4-3-1: two groups of three; or 1-1 and the other four.
        evenIs(4, souls(6) + "grudge 0 2 3;grudge 0 3 2;grudge 1 3 4;grudge 4 5 1;");
        // Nets 3, 3, -2, -2, -2: one group of five.
        evenIs(4, souls(5) + "grudge 0 2 2;grudge 0 3 1;grudge 1 3 1;grudge 1 4 2;");
        scene(souls(3) + "grudge 0 1 7;grudge 1 2 8;heir 1 0;", "", "", "forgive 0;");
        is("forgiven ones are there", 2, g -> g.even());
        workIs("die 1;", 1);
        is("what is left", 1, g -> g.even());
    }

    private void evenIs(int due, String parish) {
        fresh(parish);
        is("even of " + parish, due, g -> g.even());
    }

    /** "What a SOUL is owed in all, less what it owes (below 0, too)." */
    private void netEdges() {
        fresh(souls(8) + "grudge 0 1 30;grudge 0 2 30;grudge 0 3 30;grudge 0 4 30;grudge 0 5 30;grudge 0 6 30;grudge 0 7 30;"
            + "grudge 2 1 30;grudge 3 1 30;grudge 4 1 30;grudge 5 1 30;grudge 6 1 30;grudge 7 1 30;");
        is("the most", 210, g -> g.net(0));
        is("the least", -210, g -> g.net(1));
        is("even", 0, g -> g.net(2));
        workIs("forgive 0;", 1);
        is("forgiven ones, too", -210, g -> g.net(1));
        workIs("die 0;", 1);
        is("the dead", 0, g -> g.net(0));
        is("less", -180, g -> g.net(1));
        is("more", 30, g -> g.net(2));
    }

    // ---- 23 to 25 ----

    /** "ODDS of n (0 to 12), q (0 to 16): above (part 0), below (part 1), in least terms." "(0, too)" */
    private void oddsEdges() {
        sceneOfAll();
        for (int wrong : new int[] {-1, 13, LEAST_INT, MOST_INT}) {
            refuses("odds of n " + wrong, ILLEGAL, g -> g.odds(wrong, 8, 0));
        }
        for (int wrong : new int[] {-1, 17, LEAST_INT, MOST_INT}) {
            refuses("odds of q " + wrong, ILLEGAL, g -> g.odds(6, wrong, 0));
        }
        for (int wrong : new int[] {-1, 2, LEAST_INT, MOST_INT}) {
            refuses("odds of part " + wrong, ILLEGAL, g -> g.odds(6, 8, wrong));
        }
        for (int n = 0; n <= 12; n++) {
            for (int q = 0; q <= 16; q++) {
                oddsOf(n, q);
            }
        }
    }

    /** Half of 1 and of (1 - q/8) to the n-th. */
    private void oddsOf(int n, int q) {
        x = n % 4 == 0 ? new LychGate() : x;
        BigInteger below = BigInteger.valueOf(8).pow(n).shiftLeft(1);
        BigInteger above = BigInteger.valueOf(8).pow(n).add(BigInteger.valueOf(8 - q).pow(n));
        BigInteger common = above.gcd(below);
        is("odds above " + n + " " + q, above.divide(common).longValueExact(), g -> g.odds(n, q, 0));
        is("odds below " + n + " " + q, below.divide(common).longValueExact(), g -> g.odds(n, q, 1));
    }

    /** "STEPS of two by v, w (0 to 99)"; "RESTS: neither would have more by the other thing" */
    private void stepsEdges() {
        sceneOfAll();
        for (int wrong : new int[] {-1, 100, LEAST_INT, MOST_INT}) {
            refuses("steps of v " + wrong, ILLEGAL, g -> g.steps(wrong, 5, 0));
            refuses("steps of w " + wrong, ILLEGAL, g -> g.steps(5, wrong, 0));
        }
        for (int wrong : new int[] {-1, 3, LEAST_INT, MOST_INT}) {
            refuses("steps of what " + wrong, ILLEGAL, g -> g.steps(5, 5, wrong));
        }
        int[][] due = {{0, 0, 4, 0, 0}, {1, 0, 2, 0, 2}, {0, 1, 1, 11, 0}, {1, 1, 2, 0, 2}, {98, 99, 1, 11, 0}, {99, 98, 2, 0, 198},
            {99, 99, 2, 0, 198}, {99, 0, 2, 0, 198}, {0, 99, 1, 11, 0}, {50, 49, 2, 0, 100}, {49, 50, 1, 11, 0}};
        for (int[] d : due) {
            for (int what = 0; what <= 2; what++) {
                int k = what;
                is("steps " + d[0] + " " + d[1] + " " + k, d[2 + k], g -> g.steps(d[0], d[1], k));
            }
        }
    }

    private void breadIs(int souls, int n, int... due) {
        for (int soul = 0; soul < due.length; soul++) {
            int k = soul;
            is("bread of " + n + " among " + souls + " for " + k, due[k], g -> g.bread(k, souls, n));
        }
    }

    /** "no more than that each, no more than a bound, the greatest by which no more than n are given (all, if they are no more)" */
    private void breadEdges() {
        fresh("soul 1;soul 9;soul 4;soul 4;");
        breadIs(15, 0, 0, 0, 0, 0);
        breadIs(15, 3, 0, 0, 0, 0);
        breadIs(15, 4, 1, 1, 1, 1);
        breadIs(15, 6, 1, 1, 1, 1);
        breadIs(15, 7, 1, 2, 2, 2);
        breadIs(15, 12, 1, 3, 3, 3);
        breadIs(15, 13, 1, 4, 4, 4);
        breadIs(15, 14, 1, 5, 4, 4);
        breadIs(15, 17, 1, 8, 4, 4);
        breadIs(15, 18, 1, 9, 4, 4);
        breadIs(15, 19, 1, 9, 4, 4);
        breadIs(15, 99, 1, 9, 4, 4);
        // Among some: the others get nothing.
        breadIs(2, 0, 0, 0, 0, 0);
        breadIs(2, 8, 0, 8, 0, 0);
        breadIs(2, 9, 0, 9, 0, 0);
        breadIs(12, 7, 0, 0, 3, 3);
        breadIs(0, 99, 0, 0, 0, 0);
        workIs("die 1;", 1);
        breadIs(15, 14, 1, 5, 4, 4);
        fresh(times("soul 9;", 8));
        breadIs(255, 71, 8, 8, 8, 8, 8, 8, 8, 8);
        breadIs(255, 72, 9, 9, 9, 9, 9, 9, 9, 9);
        breadIs(128, 5, 0, 0, 0, 0, 0, 0, 0, 5);
    }

    /** "n (0 to 99)"; "IllegalArgumentException: bits of no SOULS" */
    private void breadBounds() {
        sceneOfAll();
        for (int n : new int[] {-1, 100, LEAST_INT, MOST_INT}) {
            refuses("bread of n " + n, ILLEGAL, g -> g.bread(0, 1, n));
            refuses("bread of n for one who is none of them " + n, ILLEGAL, g -> g.bread(1, 1, n));
        }
        for (int bits : new int[] {32, 33, 64, 128, 256, -1, LEAST_INT, MOST_INT}) {
            refuses("bread among " + bits, ILLEGAL, g -> g.bread(0, bits, 1));
        }
        fresh(souls(8));
        is("all eight", 1, g -> g.bread(7, 255, 99));
        refuses("bread among nine", ILLEGAL, g -> g.bread(0, 256, 1));
        refuses("bread among nine", ILLEGAL, g -> g.bread(0, 511, 1));
    }

    // ---- 26 to 33 ----

    private void whatIsRefused(String name, int most, WhatAsk ask) {
        sceneOfAll();
        for (int what : new int[] {-1, most + 1, LEAST_INT, MOST_INT}) {
            refuses(name + " " + what, ILLEGAL, g -> ask.on(g, what));
        }
    }

    interface WhatAsk {
        long on(LychGate gate, int what);
    }

    private void bothAre(String name, int zero, int one, WhatAsk ask) {
        is(name + " 0", zero, g -> ask.on(g, 0));
        is(name + " 1", one, g -> ask.on(g, 1));
    }

    /** "The GRUDGE of the greatest sum by now (what 0), of alike ones the first, that sum (1); NONE both: there is none." */
    private void worstEdges() {
        WhatAsk worst = (g, what) -> g.worst(what);
        whatIsRefused("worst", 1, worst);
        fresh(souls(3));
        bothAre("worst of none", -1, -1, worst);
        fresh(souls(3) + "grudge 0 1 1;");
        bothAre("worst of one", 0, 1, worst);
        fresh(souls(3) + "grudge 0 1 7;grudge 1 0 30;grudge 2 0 30;grudge 2 1 29;heir 1 2;");
        bothAre("of alike ones the first", 1, 30, worst);
        workIs("forgive 1;", 1);
        bothAre("a forgiven one is there", 1, 30, worst);
        workIs("die 1;", 1);
        bothAre("by now", 2, 30, worst);
        workIs("die 2;", 1);
        bothAre("none is there", -1, -1, worst);
        scene(souls(3) + "grudge 0 1 30;grudge 1 2 15;heir 0 2;", "", "", "die 0;");
        bothAre("half by now", 0, 15, worst);
    }

    /** "SOULS (bits) that hold no GRUDGE, and against whom none is held (dead ones, too)." */
    private void freeEdges() {
        fresh("");
        is("no SOULS", 0, g -> g.free());
        fresh(souls(8));
        is("all", 255, g -> g.free());
        fresh(souls(4) + "grudge 0 1 5;heir 0 2;");
        is("neither who holds nor against whom", 12, g -> g.free());
        workIs("forgive 0;", 1);
        is("a forgiven one is there", 12, g -> g.free());
        workIs("die 0;", 1);
        is("the dead", 1 + 8, g -> g.free());
        workIs("die 1;", 1);
        is("all gone", 15, g -> g.free());
    }

    /** "GRUDGES that could be forgiven now: 0 as bits, 1 their WORTHS together." */
    private void readyEdges() {
        WhatAsk ready = (g, what) -> g.ready(what);
        whatIsRefused("ready", 1, ready);
        fresh("");
        bothAre("ready of none", 0, 0, ready);
        scene(souls(8) + fourteenGrudges(), "20", "");
        bothAre("all", 16383, 280, ready);
        workIs("forgive 13;", 1);
        bothAre("but one", 8191, 260, ready);
        workIs("die 0;", 1);
        bothAre("by 1 alone", 8064 - 128, 100, ready);
        fresh(souls(3) + "grudge 0 1 10;grudge 1 0 20;waits 0 1;waits 1 0;");
        bothAre("both wait", 0, 0, ready);
        workIs("begin 0 1 2;", 1);
        bothAre("seen to", 3, 5, ready);
    }

    /** "How many more GRUDGES there are by a SOUL than against it (below 0, too)." */
    private void moreEdges() {
        fresh(souls(8) + "grudge 0 1 30;grudge 0 2 1;grudge 0 3 1;grudge 0 4 1;grudge 0 5 1;grudge 0 6 1;grudge 0 7 1;grudge 2 1 1;"
            + "grudge 3 1 1;grudge 4 1 1;grudge 5 1 1;grudge 6 1 1;grudge 7 1 1;");
        is("the most", 7, g -> g.more(0));
        is("the least", -7, g -> g.more(1));
        is("as many", 0, g -> g.more(7));
        workIs("forgive 0;", 1);
        is("forgiven ones, too", 7, g -> g.more(0));
        workIs("die 1;", 1);
        is("gone ones not", 6, g -> g.more(0));
        is("the dead", 0, g -> g.more(1));
        is("less", -1, g -> g.more(7));
    }

    /** "The living SOUL of the greatest PRIDE (what 0), of alike ones the first, that PRIDE (1); NONE both: nobody lives." */
    private void proudestEdges() {
        WhatAsk proudest = (g, what) -> g.proudest(what);
        whatIsRefused("proudest", 1, proudest);
        fresh("");
        bothAre("nobody", -1, -1, proudest);
        fresh("soul 1;");
        bothAre("one", 0, 1, proudest);
        fresh("soul 1;soul 8;soul 9;soul 9;soul 8;");
        bothAre("of alike ones the first", 2, 9, proudest);
        workIs("die 2;", 1);
        bothAre("living", 3, 9, proudest);
        workIs("die 3;", 1);
        bothAre("living", 1, 8, proudest);
        workIs("die 0;die 1;die 4;", 3);
        bothAre("nobody lives", -1, -1, proudest);
    }

    /** "GRUDGES (bits) that would go to the heir of a SOUL, did it die now (0: it is dead)." */
    private void estateEdges() {
        String parish = souls(6) + "grudge 0 1 9;grudge 0 2 1;grudge 0 3 9;grudge 0 4 2;grudge 3 1 4;grudge 0 5 3;heir 0 3;heir 3 0;heir 4 0;";
        scene(parish, "", "");
        is("estate of 0", 8 + 32, g -> g.estate(0));
        is("estate of 3: 0 holds one", 0, g -> g.estate(3));
        is("estate of one without an heir", 0, g -> g.estate(1));
        is("estate of one without GRUDGES", 0, g -> g.estate(4));
        workIs("forgive 3;die 5;", 2);
        is("forgiven ones go, gone ones not", 8, g -> g.estate(0));
        workIs("die 1;", 1);
        is("what the heir held is gone, and so is that of 0", 8, g -> g.estate(0));
        scene(parish, "", "", "die 3;");
        is("the heir is dead", 0, g -> g.estate(0));
        is("it is dead", 0, g -> g.estate(3));
        for (int soul = 0; soul < 6; soul++) {
            LychGate gate = new LychGate();
            Checks.parish(gate, parish);
            int due = gate.estate(soul);
            int before = 0;
            int heir = gate.soul(soul, 3);
            for (int grudge = 0; grudge < 6; grudge++) {
                before |= gate.grudge(grudge, 0) == soul ? 1 << grudge : 0;
            }
            Checks.work(gate, "die " + soul + ";");
            int gone = 0;
            for (int grudge = 0; grudge < 6; grudge++) {
                gone |= heir >= 0 && gate.grudge(grudge, 0) == heir && (before >> grudge & 1) == 1 ? 1 << grudge : 0;
            }
            c.same("die does as estate says of " + soul, due, gone);
        }
    }

    /** "Pairs of SOULS each of whom holds a GRUDGE against the other one: 0 how many (each once), 1 the first (..; NONE)." */
    private void mutualEdges() {
        WhatAsk mutual = (g, what) -> g.mutual(what);
        whatIsRefused("mutual", 1, mutual);
        fresh("");
        bothAre("none", 0, -1, mutual);
        fresh(souls(3) + "grudge 0 1 5;grudge 1 2 5;grudge 2 0 5;");
        bothAre("a ring is none", 0, -1, mutual);
        fresh(souls(2) + "grudge 1 0 5;grudge 0 1 5;");
        bothAre("the least pair", 1, 1, mutual);
        workIs("forgive 0;", 1);
        bothAre("a forgiven one is there", 1, 1, mutual);
        workIs("die 0;", 1);
        bothAre("gone", 0, -1, mutual);
        fresh(souls(8) + "grudge 7 6 5;grudge 6 7 5;");
        bothAre("the greatest pair", 1, 67, mutual);
        fresh(souls(8) + "grudge 7 6 5;grudge 6 7 5;grudge 7 1 1;grudge 1 7 1;grudge 2 3 1;grudge 3 2 1;grudge 0 1 1;");
        bothAre("the first of three", 3, 17, mutual);
        fresh(souls(8) + "grudge 0 1 5;grudge 1 0 5;grudge 0 2 5;grudge 2 0 5;grudge 0 3 5;grudge 3 0 5;grudge 0 4 5;grudge 4 0 5;"
            + "grudge 0 5 5;grudge 5 0 5;grudge 0 6 5;grudge 6 0 5;grudge 0 7 5;grudge 7 0 5;");
        bothAre("seven", 7, 1, mutual);
    }

    /** "Living SOULS (bits) that could go through now (what 0), that wait for nobody living (1; what was begun, .. is not asked)." */
    private void onesEdges() {
        WhatAsk ones = (g, what) -> g.ones(what);
        whatIsRefused("ones", 1, ones);
        fresh("");
        bothAre("none", 0, 0, ones);
        fresh(souls(8));
        bothAre("no SWINGS", 0, 255, ones);
        String parish = souls(4) + "grudge 0 1 5;grudge 2 1 5;waits 0 1;waits 1 0;waits 3 2;";
        scene(parish, "", "", "begin 0 1 3;forgive 0;");
        bothAre("one SWING is for each", 15, 4, ones);
        scene(parish, "", "", "begin 0 1 3;forgive 0;pass 3;");
        bothAre("none is left", 0, 4, ones);
        scene(parish, "20", "", "begin 0 1 3;forgive 1;pass 3;pass 2;");
        bothAre("who went through can't once more", 3, 4, ones);
        workIs("die 2;", 1);
        bothAre("nor the dead", 3, 8, ones);
        workIs("die 0;", 1);
        bothAre("who waits for the dead", 2, 2 + 8, ones);
        workIs("week;", 1);
        bothAre("no SWINGS", 0, 2 + 8, ones);
    }

    // ---- 34, 35 ----

    /** "A YEAR of so many days (1 to 96), Q (0 to 16): 0 .., 3 .." */
    private void yearBounds() {
        sceneOfAll();
        for (int q : new int[] {-1, 17, LEAST_INT, MOST_INT}) {
            refuses("year of q " + q, ILLEGAL, g -> g.year(1, q, 9, 0));
            refuses("span of q " + q, ILLEGAL, g -> g.span(1, 2, q, 9, 0));
        }
        for (int days : new int[] {0, -1, 97, LEAST_INT, MOST_INT}) {
            refuses("year of days " + days, ILLEGAL, g -> g.year(1, 5, days, 0));
            refuses("span of days " + days, ILLEGAL, g -> g.span(1, 2, 5, days, 0));
        }
        for (int what : new int[] {-1, 4, LEAST_INT, MOST_INT}) {
            refuses("year of what " + what, ILLEGAL, g -> g.year(1, 5, 9, what));
        }
        for (int seed : new int[] {0, -1, LEAST_INT, MOST_INT}) {
            leavesAll("year by " + seed, 96, g -> g.year(seed, 16, 96, 3));
            leavesAll("year by " + seed, 0, g -> g.year(seed, 0, 96, 3));
            leavesAll("year by " + seed, 1, g -> g.year(seed, 16, 1, 3));
        }
    }

    private void yearIs(int seed, int q, int days, int... due) {
        for (int what = 0; what < due.length; what++) {
            int k = what;
            is("year " + seed + " " + q + " " + days + " " + k, due[k], g -> g.year(seed, q, days, k));
        }
    }

    /** "DRAW by how many GRUDGES were told: forgive; DRAW by how many SOULS: pass (each if it can be done); DRAW by 16 below Q: week" */
    private void yearOfSomeDays() {
        // By SEED 1: 16838 5758 10113, 17515 31051 5627, 23010 7419 16212, 4086 2749 12767.
        fresh(souls(3) + "grudge 0 1 10;grudge 1 0 1;grudge 2 0 30;");
        // GRUDGES 2, 1, 0, 0; SOULS 1, 1, 0, 1; by sixteen 1, 11, 4, 15. Worths 4, 1, 2.
        yearIs(1, 0, 1, 1, 1, 3, 0);
        yearIs(1, 1, 1, 1, 1, 3, 0);
        yearIs(1, 2, 1, 1, 1, 0, 1);
        yearIs(1, 0, 2, 2, 1, 4, 0);
        yearIs(1, 2, 2, 2, 2, 0, 1);
        yearIs(1, 11, 2, 2, 2, 0, 1);
        yearIs(1, 12, 2, 2, 2, 0, 2);
        yearIs(1, 0, 3, 3, 2, 5, 0);
        yearIs(1, 0, 4, 3, 2, 5, 0);
        yearIs(1, 5, 4, 4, 4, 1, 2);
        yearIs(1, 16, 4, 4, 4, 0, 4);
        yearIs(1, 15, 4, 4, 4, 1, 3);
        // A pass comes behind the forgiving of its day: the first SWING is used on the day.
        fresh(souls(2) + "grudge 0 1 1;");
        yearIs(1, 0, 1, 1, 1, 0, 0);
    }

    /** A YEAR begins as all is now: with what is forgiven, gone, waited for, by the LAW. */
    private void yearFromNow() {
        fresh(souls(3) + "grudge 0 1 10;grudge 1 0 1;grudge 2 0 30;waits 2 0;");
        // GRUDGE 2 is by one who waits; then 1 (worth 1), 0 (worth 2).
        yearIs(1, 0, 1, 0, 0, 0, 0);
        yearIs(1, 0, 3, 2, 2, 1, 0);
        workIs("forgive 0;pass 1;", 2);
        yearIs(1, 0, 1, 1, 0, 5, 0);
        lawIs("week+times*10", 1, -1);
        workIs("week;", 1);
        // GRUDGE 1 is worth 1, GRUDGE 0 11; two go through.
        yearIs(1, 0, 3, 2, 2, 10, 1);
        workIs("die 1;", 1);
        // By GRUDGES that were told: 0 and 1 are gone, 2 waits for 0, who can't begin by them.
        yearIs(1, 0, 96, 0, 0, 0, 1);
        yearIs(1, 16, 9, 0, 0, 0, 10);
        workIs("die 0;", 1);
        yearIs(1, 16, 9, 0, 0, 0, 10);
    }

    /** "week (beyond 400, too)" */
    private void yearBeyond400() {
        String most = "again 30[again 30[week;];];";
        scene(souls(2) + "grudge 0 1 20;", "week/50", "", most, most, "again 16[week;];");
        toldIs(2, 400);
        yearIs(1, 16, 1, 1, 1, 0, 401);
        yearIs(1, 16, 96, 96, 96, 0, 496);
        is("the WEEK is as it was", 400, g -> g.told(2));
        workIs("week;", 0, -1, 1);
    }

    /** "Without GRUDGES nothing is done, there is no DRAW." */
    private void yearWithoutGrudges() {
        scene(souls(3), "", "", "again 7[week;];");
        yearIs(1, 16, 96, 0, 0, 0, 7);
        is("span", 0, g -> g.span(1, 20, 16, 96, 1));
        fresh("");
        yearIs(1, 16, 96, 0, 0, 0, 0);
        is("span", 0, g -> g.span(1, 20, 16, 96, 2));
    }

    /** "the SEED (32 bits) becomes itself times 1,103,515,245, and 12,345 (it wraps); its bits 16 to 30, what is left of them" */
    private void yearDrawWraps() {
        int[] seeds = {0, 1, -1, 7, 123456789, -987654321, LEAST_INT, MOST_INT};
        for (int seed : seeds) {
            fresh(souls(7) + "grudge 0 1 10;grudge 1 0 1;grudge 2 0 30;grudge 3 0 20;grudge 4 5 9;");
            long value = seed & 0xffffffffL;
            long[] draws = new long[3];
            for (int i = 0; i < 3; i++) {
                value = (value * 1103515245L + 12345L) & 0xffffffffL;
                draws[i] = value / 65536 % 32768;
            }
            int[] worths = {2, 1, 4, 3, 1};
            int worth = worths[(int) (draws[0] % 5)];
            int byWeek = (int) (draws[2] % 16);
            yearIs(seed, byWeek, 1, 1, 1, worth - 1, 0);
            if (byWeek < 16) {
                yearIs(seed, byWeek + 1, 1, 1, 1, 0, 1);
            }
        }
        fresh(souls(8) + fourteenGrudges());
        yearIs(1, 0, 1, 1, 1, 0, 0);
    }

    /** "Of so many SEEDS (1 to 20; seed, seed and 1, ..)" */
    private void spanBounds() {
        sceneOfAll();
        for (int many : new int[] {0, -1, 21, LEAST_INT, MOST_INT}) {
            refuses("span of many " + many, ILLEGAL, g -> g.span(1, many, 5, 9, 0));
        }
        for (int what : new int[] {-1, 3, LEAST_INT, MOST_INT}) {
            refuses("span of what " + what, ILLEGAL, g -> g.span(1, 2, 5, 9, what));
        }
        leavesAll("span of twenty", 0, g -> g.span(1, 20, 16, 96, 2));
        leavesAll("span of one", 0, g -> g.span(1, 1, 16, 1, 2));
    }

    /** "0 the fewest who went through in it (each time counts), 1 the most, 2 by how many there are SWINGS then" */
    private void spanEdges() {
        for (int[] s : new int[][] {{1, 1, 3, 20}, {1, 20, 3, 20}, {MOST_INT - 3, 9, 5, 7}, {-4, 8, 9, 30}, {LEAST_INT, 20, 2, 96},
            {MOST_INT, 2, 16, 96}, {77, 20, 8, 1}}) {
            fresh(souls(4) + "grudge 0 1 10;grudge 1 0 1;grudge 2 0 30;grudge 3 0 20;waits 0 1;waits 2 3;");
            int fewest = MOST_INT;
            int most = 0;
            int swings = 0;
            for (int i = 0; i < s[1]; i++) {
                int went = x.year(s[0] + i, s[2], s[3], 1);
                fewest = Math.min(fewest, went);
                most = Math.max(most, went);
                swings += x.year(s[0] + i, s[2], s[3], 2) > 0 ? 1 : 0;
            }
            is("the fewest", fewest, g -> g.span(s[0], s[1], s[2], s[3], 0));
            is("the most", most, g -> g.span(s[0], s[1], s[2], s[3], 1));
            is("with SWINGS", swings, g -> g.span(s[0], s[1], s[2], s[3], 2));
        }
        // Each time counts: two go through in as many weeks, 96 times in all.
        fresh(souls(2) + "grudge 0 1 10;");
        is("each time", 96, g -> g.span(3, 5, 16, 96, 0));
        is("each time", 96, g -> g.span(3, 5, 16, 96, 1));
        is("no SWINGS behind a week", 0, g -> g.span(3, 5, 16, 96, 2));
        is("one SWING is left on the first day", 5, g -> g.span(3, 5, 0, 1, 2));
    }

    // ---- 38, 39, and all calls ----

    /** "How many calls were refused: 0 NoSuchElementException, 1 IllegalArgumentException; NONE for others. (No IMAGE keeps it.)" */
    private void statusEdges() {
        sceneOfAll();
        for (int what : new int[] {-1, 2, 3, LEAST_INT, MOST_INT}) {
            leavesAll("status " + what, -1, g -> g.status(what));
        }
        x.image();
        for (int i = 1; i <= 20; i++) {
            int many = i;
            is("refused", NO_SUCH, g -> g.soul(5, 9));
            is("refused", ILLEGAL, g -> g.told(12));
            is("refused", ILLEGAL, g -> g.work(1));
            is("status 0", many, g -> g.status(0));
            is("status 1", 2 * many, g -> g.status(1));
        }
        // REFUSED STEPS, FAULTS, -1 and NONE are no refused calls.
        workIs("pass 9;", -8, 5);
        workIs("pass 4;", 0, -1, 1);
        is("no order", -1, g -> g.order(9));
        is("undo", 2, g -> g.undo());
        is("status 0", 20, g -> g.status(0));
        is("no IMAGE keeps it", 0, g -> g.restore());
        is("status 0", 20, g -> g.status(0));
        is("status 1", 40, g -> g.status(1));
        is("nor does a PARISH", 0, g -> g.parish(0));
        is("status 0", 20, g -> g.status(0));
        is("status 1", 40, g -> g.status(1));
    }

    /** A call is refused once, were all that it is told wrong. */
    private void refusedOnce() {
        sceneOfAll();
        refuses("soul", NO_SUCH, g -> g.soul(-1, -1));
        refuses("grudge", NO_SUCH, g -> g.grudge(-1, -1));
        refuses("would", ILLEGAL, g -> g.would(99, 99, -99, 99, 99, 999, 99));
        refuses("least", ILLEGAL, g -> g.least(-1, -1));
        refuses("way", NO_SUCH, g -> g.way(-1, -1));
        refuses("odds", ILLEGAL, g -> g.odds(-1, -1, -1));
        refuses("steps", ILLEGAL, g -> g.steps(-1, -1, -1));
        refuses("bread", NO_SUCH, g -> g.bread(-1, -1, -1));
        refuses("bread of a SOUL", ILLEGAL, g -> g.bread(0, -1, -1));
        refuses("year", ILLEGAL, g -> g.year(-1, -1, -1, -1));
        refuses("span", ILLEGAL, g -> g.span(-1, -1, -1, -1, -1));
    }

    /** "0 IMAGES, 1 bytes of the TAPE, 2 WORKS that can be undone; NONE for others." */
    private void countEdges() {
        sceneOfAll();
        for (int what : new int[] {-1, 3, LEAST_INT, MOST_INT}) {
            leavesAll("count " + what, -1, g -> g.count(what));
        }
        is("works", 2, g -> g.count(2));
        for (int i = 1; i <= 3; i++) {
            int many = i;
            x.image();
            is("images", many, g -> g.count(0));
        }
        x.image();
        is("images", 3, g -> g.count(0));
        x.restore();
        is("images", 2, g -> g.count(0));
        for (int i = 1; i <= 30; i++) {
            int many = 20 * i;
            x.feed(0x20202020, 0x20202020, 0x20202020, 0x20202020, 0x20202020);
            is("tape", many, g -> g.count(1));
        }
        x.feed(0, 0, 0, 0, 0);
        is("tape", 600, g -> g.count(1));
        x.work(0);
        is("tape", 0, g -> g.count(1));
        is("works", 3, g -> g.count(2));
        x.undo();
        is("works", 2, g -> g.count(2));
    }

    /** "An object is used for at most 512 calls after it has been made": its last call is as good as its first */
    private void fiveHundredTwelveCalls() {
        x = new LychGate();
        int[] seven = Checks.five(Checks.bytes("soul 1;soul 1;"), 0);
        for (int i = 0; i < 255; i++) {
            x.feed(seven[0], seven[1], seven[2], seven[3], seven[4]);
            x.parish(14);
        }
        is("the 511th", 2, g -> g.told(0));
        is("the 512th", 1, g -> g.bread(0, 3, 2));
    }
}
