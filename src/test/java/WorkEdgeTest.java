/** The document's sentences on WORK that name an edge, each with a test of its own: part 2, promises 5, 8, 36, 37. */
public final class WorkEdgeTest extends Bench {
    public static void main(String[] args) {
        WorkEdgeTest t = new WorkEdgeTest();
        t.atFirst();
        t.stepsInOrder();
        t.twoHundredStepsBegun();
        t.agoingTwoHundredFromInside();
        t.refusedOnesCountAmongTwoHundred();
        t.emptyAgainsCountAmongTwoHundred();
        t.eachWorkHasTwoHundred();
        t.canBeginLiving();
        t.canBeginWaitingForDead();
        t.canBeginWaitingForBegun();
        t.canBeginWaitingForSeenTo();
        t.forgive();
        t.forgiveRefused();
        t.lie();
        t.lieRefused();
        t.drink();
        t.drinkRefused();
        t.begin();
        t.beginRefused();
        t.pass();
        t.passRefused();
        t.dieAgainst();
        t.dieToTheHeir();
        t.dieHalf();
        t.dieWithoutSuchAnHeir();
        t.dieHeirHoldsByThen();
        t.dieTwiceInherited();
        t.dieRefused();
        t.goneOnesKeepTheirNumbers();
        t.week();
        t.weekFrom400();
        t.howManyStepsWereDone();
        t.workWithAFaultDoesNone();
        t.sixteenWorks();
        t.undoToTheFirst();
        t.undoOfOneWork();
        t.threeImages();
        t.restoreToTheLast();
        t.imageOfTheWorks();
        t.imageKeepsNoLawBookTape();
        t.refusedByTheLatestWork();
        t.c.end();
    }

    // ---- part 2 ----

    /** "It is WEEK 0 at first, all live, nothing is forgiven, no SWINGS are there, nobody went through, began or lied." */
    private void atFirst() {
        fresh(souls(8) + fourteenGrudges());
        int[] due = {8, 14, 0, 0, 255, 16383, 0, 0, 0, 0, 0, 0};
        for (int what = 0; what < due.length; what++) {
            toldIs(what, due[what]);
        }
        for (int grudge = 0; grudge < 14; grudge++) {
            grudgeIs(grudge, 3, 0);
            grudgeIs(grudge, 4, 0);
        }
        for (int soul = 0; soul < 8; soul++) {
            soulIs(soul, 6, 0);
        }
    }

    /** "STEPS are done in order" */
    private void stepsInOrder() {
        fresh(souls(2) + "grudge 0 1 5;");
        workIs("forgive 0;pass 1;", 2, -1, 0);
        fresh(souls(2) + "grudge 0 1 5;");
        workIs("pass 1;forgive 0;", 1, -1, 1);
        fresh(souls(3) + "grudge 0 1 5;grudge 1 2 5;waits 0 1;");
        workIs("again 2[forgive 0;forgive 1;];", 2, -1, 2);
        fresh(souls(2) + "grudge 0 1 5;");
        workIs("forgive 0;again 1[week;];pass 1;again 1[forgive 0;];", 3, -1, 1);
        toldIs(6, 1);
    }

    /** "200 STEPS at most are begun by one WORK (an again, too, each time it is come to ..)" */
    private void twoHundredStepsBegun() {
        // 1, and 28 times 1 and 6: 197 are begun.
        String many = "again 28[again 6[week;];];";
        fresh("soul 1;");
        workIs(many + "week;week;", 170, -1, 0);
        fresh("soul 1;");
        workIs(many + "week;week;week;", 171, -1, 0);
        fresh("soul 1;");
        workIs(many + "week;week;week;week;", 171, -1, 0);
        toldIs(2, 171);
        // The again is the 200th: what is inside is left out.
        fresh("soul 1;");
        workIs(many + "week;week;again 5[week;];week;", 170, -1, 0);
        // The again is the 199th: one STEP of it is begun.
        fresh("soul 1;");
        workIs(many + "week;again 5[week;die 0;];week;", 170, -1, 0);
        toldIs(4, 1);
        fresh("soul 1;");
        workIs("again 30[" + times("week;", 7) + "];", 199, -1, 0);
        fresh("soul 1;");
        workIs("again 30[" + times("week;", 6) + "];" + times("week;", 18), 198, -1, 0);
        fresh("soul 1;");
        workIs("again 30[" + times("week;", 6) + "];" + times("week;", 19), 199, -1, 0);
        fresh("soul 1;");
        workIs("again 30[" + times("week;", 6) + "];" + times("week;", 20), 199, -1, 0);
    }

    /** "what would come behind is left out": also what is behind an again that was cut off, at each depth */
    private void agoingTwoHundredFromInside() {
        fresh("soul 1;");
        // 1, then 31 a round: 6 rounds are 187, then an again and 12 weeks.
        workIs("again 30[again 30[week;];];die 0;", 192, -1, 0);
        toldIs(4, 1);
        fresh("soul 1;");
        // 1, then 1 and 30 times 2 a round: 3 rounds are 184; then an again, and 7 times an again and a week, and one more.
        workIs("again 30[again 30[again 1[week;];];];die 0;", 97, -1, 0);
        toldIs(4, 1);
    }

    /** "REFUSED ones, too" */
    private void refusedOnesCountAmongTwoHundred() {
        fresh("soul 1;");
        workIs("again 28[again 6[pass 0;];];week;week;week;week;", 3, -1, 168);
        toldIs(2, 3);
        fresh("soul 1;");
        workIs("again 28[again 6[pass 0;];];pass 0;pass 0;pass 0;week;", 0, -1, 171);
        toldIs(2, 0);
    }

    /** "an again, too, each time it is come to": one of no STEPS, or of N 0, too */
    private void emptyAgainsCountAmongTwoHundred() {
        fresh("soul 1;");
        workIs("again 28[again 0[week;];" + times("again 9[];", 6) + "];" + "week;week;week;week;", 3, -1, 0);
        fresh("soul 1;");
        workIs("again 30[" + times("again 9[];", 6) + "];" + "again 18[week;];week;", 18, -1, 0);
        // An again that is never come to does not count.
        fresh("soul 1;");
        workIs("again 0[again 30[week;];];again 30[again 5[week;];];week;", 151, -1, 0);
        toldIs(2, 151);
    }

    /** "by one WORK" */
    private void eachWorkHasTwoHundred() {
        fresh("soul 1;");
        workIs("again 30[again 30[week;];];", 192, -1, 0);
        workIs("again 30[again 30[week;];];", 192, -1, 0);
        toldIs(2, 384);
    }

    /** "A SOUL CAN BEGIN that lives" */
    private void canBeginLiving() {
        fresh(souls(2) + "grudge 0 1 5;");
        soulIs(0, 1, 1);
        canIs(0, true);
        workIs("die 0;", 1);
        soulIs(0, 1, 0);
        canIs(0, false);
    }

    /** "and each it waits for is dead" */
    private void canBeginWaitingForDead() {
        fresh(souls(4) + "grudge 0 3 5;waits 0 1;waits 0 2;");
        soulIs(0, 1, 0);
        workIs("die 1;", 1);
        soulIs(0, 1, 0);
        workIs("die 2;", 1);
        soulIs(0, 1, 1);
        workIs("forgive 0;", 1);
        workIs("week;", 1);
        soulIs(0, 1, 1);
        soulIs(0, 2, 6);
    }

    /** "has BEGUN this week" */
    private void canBeginWaitingForBegun() {
        fresh(souls(4) + "grudge 0 3 5;grudge 1 3 5;grudge 2 3 5;waits 0 1;waits 0 2;");
        workIs("forgive 1;", 1);
        soulIs(0, 1, 0);
        canIs(0, false);
        workIs("lie 2;", 1);
        soulIs(0, 1, 1);
        canIs(0, true);
        workIs("drink 1 3;", 1);
        soulIs(0, 1, 1);
        workIs("week;", 1);
        soulIs(0, 1, 0);
        // One who began and died is dead.
        workIs("forgive 1;forgive 2;die 1;", 3);
        soulIs(0, 1, 1);
        // Going through, or seeing to it, is no beginning.
        fresh(souls(4) + "grudge 0 3 5;grudge 2 3 5;waits 0 1;waits 2 3;waits 3 2;");
        workIs("begin 2 3 1;forgive 1;pass 1;", 3);
        soulIs(0, 1, 0);
    }

    /** "or is one of two with it a third saw to this week" */
    private void canBeginWaitingForSeenTo() {
        fresh(souls(5) + "grudge 0 4 5;grudge 1 4 5;waits 0 1;waits 1 0;waits 0 2;waits 2 0;waits 3 1;");
        workIs("begin 0 1 4;", 1);
        soulIs(1, 1, 1);
        soulIs(0, 1, 0);
        soulIs(2, 1, 0);
        soulIs(3, 1, 0);
        workIs("begin 2 0 4;", 1);
        soulIs(0, 1, 1);
        soulIs(2, 1, 1);
        soulIs(3, 1, 0);
        toldIs(7, 0);
        workIs("week;", 1);
        for (int soul = 0; soul < 4; soul++) {
            soulIs(soul, 1, 0);
        }
    }

    /** "forgive G: by A, who CAN BEGIN (has BEGUN then): it is forgiven, its WORTH (ahead of that) comes to the SWINGS" */
    private void forgive() {
        scene(souls(3) + "grudge 0 1 5;grudge 2 1 5;", "times*3+2", "");
        workIs("forgive 1;", 1, -1, 0);
        toldIs(3, 2);
        toldIs(6, 2);
        toldIs(7, 4);
        toldIs(8, 0);
        grudgeIs(1, 3, 1);
        grudgeIs(1, 4, 1);
        grudgeIs(0, 3, 0);
        soulIs(2, 6, 1);
        soulIs(0, 6, 0);
        workIs("drink 2 1;forgive 1;forgive 0;", 3);
        toldIs(3, 2 + 5 + 2);
        soulIs(2, 6, 2);
        grudgeIs(1, 4, 2);
        // It is worth by its week, and as many as there are.
        scene(souls(2) + "grudge 0 1 5;", "week+1", "", "again 7[week;];");
        workIs("forgive 0;", 1);
        toldIs(3, 8);
    }

    /** "(REFUSED, if it is forgiven, or A can't)" */
    private void forgiveRefused() {
        String parish = souls(4) + "grudge 0 1 5;grudge 1 2 5;grudge 2 3 5;grudge 3 0 9;waits 1 0;heir 2 0;";
        scene(parish, "", "");
        refusedSteps("forgive 1;");
        doneSteps("forgive 0;", "forgive 2;", "forgive 3;");
        scene(parish, "", "", "forgive 0;");
        refusedSteps("forgive 0;");
        doneSteps("forgive 1;");
        scene(parish, "", "", "lie 0;");
        refusedSteps("forgive 0;");
        // GRUDGES that are gone: against the dead, and by the dead.
        scene(parish, "", "", "die 3;");
        refusedSteps("forgive 2;", "forgive 3;");
        // One that is the heir's is by him who can begin.
        scene(parish, "", "", "die 2;");
        doneSteps("forgive 2;");
        scene(parish + "waits 0 1;", "", "", "die 2;");
        refusedSteps("forgive 2;", "forgive 0;", "forgive 1;");
    }

    /** "lie G: just so, but A has LIED this week" */
    private void lie() {
        scene(souls(3) + "grudge 0 1 5;grudge 2 1 25;", "", "");
        workIs("lie 1;", 1, -1, 0);
        toldIs(3, 3);
        toldIs(6, 2);
        toldIs(7, 4);
        toldIs(8, 4);
        grudgeIs(1, 4, 1);
        soulIs(2, 6, 1);
        workIs("forgive 0;", 1);
        toldIs(8, 4);
        workIs("drink 1 2;forgive 1;", 2);
        toldIs(8, 4);
        workIs("week;", 1);
        toldIs(8, 0);
        soulIs(2, 6, 2);
    }

    private void lieRefused() {
        String parish = souls(4) + "grudge 0 1 5;grudge 1 2 5;grudge 2 3 5;waits 1 0;";
        scene(parish, "", "");
        refusedSteps("lie 1;");
        doneSteps("lie 0;", "lie 2;");
        scene(parish, "", "", "forgive 0;", "die 3;");
        refusedSteps("lie 0;", "lie 2;");
        doneSteps("lie 1;");
    }

    /** "drink: all GRUDGES between A and B that are forgiven are so no more" */
    private void drink() {
        String parish = souls(3) + "grudge 0 1 5;grudge 1 0 5;grudge 0 2 5;grudge 2 1 5;";
        scene(parish, "", "", "forgive 0;lie 1;forgive 2;forgive 3;pass 2;");
        workIs("drink 0 1;", 1, -1, 0);
        toldIs(6, 12);
        toldIs(3, 3);
        toldIs(7, 7);
        toldIs(8, 2);
        toldIs(9, 4);
        grudgeIs(0, 4, 1);
        soulIs(0, 6, 2);
        scene(parish, "", "", "forgive 1;forgive 2;");
        workIs("drink 0 1;", 1, -1, 0);
        toldIs(6, 4);
        scene(parish, "", "", "forgive 0;forgive 2;");
        workIs("drink 1 0;", 1, -1, 0);
        toldIs(6, 4);
    }

    /** "(REFUSED, if none is, A is B, or one is dead)" */
    private void drinkRefused() {
        String parish = souls(4) + "grudge 0 1 5;grudge 1 0 5;grudge 0 2 5;grudge 2 1 5;";
        scene(parish, "", "");
        refusedSteps("drink 0 1;", "drink 1 0;", "drink 0 0;", "drink 3 2;");
        scene(parish, "", "", "forgive 0;forgive 3;");
        doneSteps("drink 0 1;", "drink 1 0;", "drink 1 2;", "drink 2 1;");
        refusedSteps("drink 0 2;", "drink 2 0;", "drink 0 0;", "drink 1 1;", "drink 0 3;");
        scene(parish, "", "", "forgive 0;forgive 3;", "die 1;");
        refusedSteps("drink 0 1;", "drink 1 0;", "drink 1 2;", "drink 1 1;");
        scene(parish, "", "", "forgive 0;", "week;");
        refusedSteps("drink 0 1;");
        scene(parish, "", "", "forgive 0;", "drink 0 1;");
        refusedSteps("drink 0 1;");
    }

    /** "begin A B T: T sees to it that neither of A and B waits for the other one this week, and has LIED" */
    private void begin() {
        String parish = souls(4) + "grudge 0 3 5;waits 0 1;waits 1 0;";
        scene(parish, "", "");
        workIs("begin 0 1 2;", 1, -1, 0);
        toldIs(8, 4);
        toldIs(7, 0);
        toldIs(3, 0);
        soulIs(0, 1, 1);
        soulIs(1, 1, 1);
        soulIs(0, 2, 2);
        soulIs(1, 2, 1);
        workIs("week;", 1);
        toldIs(8, 0);
        soulIs(0, 1, 0);
        soulIs(1, 1, 0);
        workIs("begin 1 0 3;", 1, -1, 0);
        toldIs(8, 8);
    }

    /** "(REFUSED, if these are not three, not all live, not each of A and B waits for the other one, or it is seen to already)" */
    private void beginRefused() {
        String parish = souls(5) + "grudge 0 3 5;waits 0 1;waits 1 0;waits 2 0;waits 0 3;";
        scene(parish, "", "");
        doneSteps("begin 0 1 2;", "begin 1 0 2;", "begin 0 1 4;");
        refusedSteps("begin 0 0 1;", "begin 0 1 0;", "begin 0 1 1;", "begin 1 0 0;", "begin 1 0 1;", "begin 0 0 0;",
            "begin 2 0 1;", "begin 0 2 1;", "begin 0 3 1;", "begin 3 0 1;", "begin 3 4 0;");
        scene(parish, "", "", "begin 0 1 2;");
        refusedSteps("begin 0 1 2;", "begin 1 0 2;", "begin 0 1 3;", "begin 1 0 4;");
        scene(parish, "", "", "begin 0 1 2;", "week;");
        doneSteps("begin 0 1 2;", "begin 1 0 3;");
        scene(parish, "", "", "die 0;");
        refusedSteps("begin 0 1 2;", "begin 1 0 2;");
        scene(parish, "", "", "die 1;");
        refusedSteps("begin 0 1 2;", "begin 1 0 2;");
        scene(parish, "", "", "die 2;");
        refusedSteps("begin 0 1 2;", "begin 1 0 2;");
        doneSteps("begin 0 1 3;");
        // That both have begun is no matter.
        scene(souls(4) + "grudge 0 3 5;grudge 1 3 5;waits 0 1;waits 1 0;waits 2 0;waits 0 2;", "", "",
            "begin 0 1 3;begin 0 2 3;forgive 0;forgive 1;");
        refusedSteps("begin 0 1 3;", "begin 2 0 1;");
    }

    /** "pass: A goes through, one SWING less" */
    private void pass() {
        scene(souls(3) + "grudge 0 1 20;waits 2 1;", "", "", "forgive 0;");
        toldIs(3, 3);
        workIs("pass 1;", 1, -1, 0);
        toldIs(3, 2);
        toldIs(9, 2);
        // Who goes through needs not have begun, nor be able to.
        soulIs(2, 1, 0);
        workIs("pass 2;pass 0;", 2, -1, 0);
        toldIs(3, 0);
        toldIs(9, 7);
        toldIs(7, 1);
    }

    /** "(REFUSED, if A is dead, went through this week, or there is none)" */
    private void passRefused() {
        String parish = souls(3) + "grudge 0 1 20;";
        scene(parish, "", "");
        refusedSteps("pass 0;", "pass 1;");
        scene(parish, "", "", "forgive 0;pass 1;", "die 2;");
        refusedSteps("pass 1;", "pass 2;");
        doneSteps("pass 0;");
        // The last SWING goes to one, none is there for the next.
        scene(parish, "1", "", "forgive 0;");
        doneSteps("pass 0;", "pass 1;", "pass 2;");
        scene(parish, "1", "", "forgive 0;", "pass 0;");
        refusedSteps("pass 0;", "pass 1;", "pass 2;");
        // Once a week.
        scene(parish, "", "", "forgive 0;pass 1;week;forgive 0;");
        doneSteps("pass 1;");
    }

    /** "A is dead; all GRUDGES against A are gone" */
    private void dieAgainst() {
        scene(souls(4) + "grudge 1 0 5;grudge 2 0 5;grudge 1 2 5;heir 1 3;", "", "", "forgive 0;forgive 2;pass 0;");
        workIs("die 0;", 1, -1, 0);
        toldIs(4, 14);
        toldIs(5, 4);
        toldIs(6, 4);
        grudgeIs(0, 2, 0);
        grudgeIs(1, 2, 0);
        grudgeIs(0, 5, 0);
        grudgeIs(2, 2, 5);
        soulIs(1, 4, 5);
        soulIs(0, 5, 0);
        // What it did this week stays done.
        toldIs(3, 1);
        toldIs(9, 1);
        soulIs(1, 6, 2);
    }

    /** "each GRUDGE by A .. is the heir's from now on, its sum half (cut), not forgiven, times 0" */
    private void dieToTheHeir() {
        scene(souls(4) + "grudge 0 1 9;grudge 0 2 30;grudge 3 0 5;heir 0 3;", "", "", "forgive 0;drink 0 1;forgive 0;lie 1;");
        grudgeIs(0, 4, 2);
        workIs("die 0;", 1, -1, 0);
        toldIs(5, 3);
        toldIs(6, 0);
        grudgeIs(0, 0, 3);
        grudgeIs(0, 1, 1);
        grudgeIs(0, 2, 4);
        grudgeIs(0, 4, 0);
        grudgeIs(1, 0, 3);
        grudgeIs(1, 2, 15);
        grudgeIs(1, 4, 0);
        soulIs(0, 6, 3);
        soulIs(3, 6, 0);
        soulIs(3, 4, 19);
        toldIs(7, 1);
        toldIs(8, 1);
        workIs("forgive 0;", 1);
        soulIs(3, 6, 1);
        toldIs(7, 9);
        // The heir's from now on: not A's again in the next week.
        workIs("week;", 1);
        grudgeIs(0, 0, 3);
    }

    /** "half of it is above 0; else it is gone" */
    private void dieHalf() {
        int[][] due = {{1, 0}, {2, 1}, {3, 1}, {4, 2}, {29, 14}, {30, 15}};
        for (int[] d : due) {
            scene(souls(3) + "grudge 0 1 " + d[0] + ";heir 0 2;", "", "");
            is("estate of half " + d[0], d[1] > 0 ? 1 : 0, g -> g.estate(0));
            workIs("die 0;", 1, -1, 0);
            grudgeIs(0, 2, d[1]);
            toldIs(5, d[1] > 0 ? 1 : 0);
        }
    }

    /** "if A has an heir who lives, is not whom it is against" */
    private void dieWithoutSuchAnHeir() {
        scene(souls(3) + "grudge 0 1 9;", "", "", "forgive 0;", "die 0;");
        toldIs(5, 0);
        toldIs(6, 0);
        scene(souls(3) + "grudge 0 1 9;heir 0 2;", "", "", "die 2;", "die 0;");
        toldIs(5, 0);
        grudgeIs(0, 2, 0);
        scene(souls(3) + "grudge 0 1 9;grudge 0 2 9;heir 0 2;", "", "", "die 0;");
        toldIs(5, 1);
        grudgeIs(0, 0, 2);
        grudgeIs(1, 2, 0);
        // The heir of the heir is no heir.
        scene(souls(4) + "grudge 0 1 9;heir 0 2;heir 2 3;", "", "", "die 2;", "die 0;");
        toldIs(5, 0);
    }

    /** "holds none against that one by then" */
    private void dieHeirHoldsByThen() {
        scene(souls(4) + "grudge 0 1 9;grudge 2 1 1;grudge 0 3 9;heir 0 2;", "", "", "forgive 1;", "die 0;");
        toldIs(5, 6);
        grudgeIs(0, 2, 0);
        grudgeIs(2, 0, 2);
        grudgeIs(1, 2, 1);
        toldIs(6, 2);
        // By then: what the heir has from another one, and what it held but is gone.
        scene(souls(4) + "grudge 0 1 9;grudge 3 1 9;heir 0 2;heir 3 2;", "", "", "die 3;", "die 0;");
        toldIs(5, 2);
        grudgeIs(1, 0, 2);
        scene(souls(4) + "grudge 0 1 9;grudge 3 1 9;heir 0 2;heir 3 2;", "", "", "die 0;", "die 3;");
        toldIs(5, 1);
        grudgeIs(0, 0, 2);
        scene(souls(4) + "grudge 0 1 9;grudge 1 2 9;heir 0 2;", "", "", "die 0;");
        toldIs(5, 3);
    }

    /** The heir's own death: what was left to it goes on, half of the half. */
    private void dieTwiceInherited() {
        scene(souls(4) + "grudge 0 1 7;heir 0 2;heir 2 3;", "", "", "die 0;", "die 2;");
        grudgeIs(0, 0, 3);
        grudgeIs(0, 2, 1);
        workIs("die 3;", 1);
        toldIs(5, 0);
        scene(souls(3) + "grudge 0 1 7;heir 0 2;heir 2 0;", "", "", "die 0;", "die 2;");
        toldIs(5, 0);
    }

    /** "die (REFUSED, if A is dead)" */
    private void dieRefused() {
        scene(souls(3) + "grudge 0 1 9;heir 0 2;", "", "", "forgive 0;", "die 0;");
        refusedSteps("die 0;");
        doneSteps("die 1;", "die 2;");
        scene(souls(2), "", "", "die 0;die 1;");
        refusedSteps("die 0;", "die 1;");
        toldIs(4, 0);
        scene(souls(2), "", "", "die 0;", "week;");
        refusedSteps("die 0;");
    }

    /** "GRUDGES that are gone keep their numbers." */
    private void goneOnesKeepTheirNumbers() {
        scene(souls(4) + "grudge 0 1 5;grudge 1 2 6;grudge 2 3 7;grudge 3 1 8;", "", "", "die 0;");
        toldIs(1, 4);
        toldIs(5, 14);
        grudgeIs(0, 0, 0);
        grudgeIs(0, 1, 1);
        grudgeIs(0, 2, 0);
        grudgeIs(0, 3, 0);
        grudgeIs(0, 5, 0);
        grudgeIs(1, 2, 6);
        grudgeIs(2, 2, 7);
        grudgeIs(3, 2, 8);
        workIs("forgive 3;", 1);
        toldIs(6, 8);
        workIs("forgive 4;", -8, 8);
    }

    /** "nothing is forgiven, there are no SWINGS, nobody went through, BEGAN, LIED, nothing is seen to; the next WEEK" */
    private void week() {
        scene(souls(4) + "grudge 0 1 20;grudge 2 1 5;waits 0 1;waits 1 0;", "", "", "begin 0 1 3;lie 0;forgive 1;pass 2;pass 3;");
        workIs("week;", 1, -1, 0);
        int[] due = {4, 2, 1, 0, 15, 3, 0, 0, 0, 0, 0, 0};
        for (int what = 0; what < due.length; what++) {
            toldIs(what, due[what]);
        }
        soulIs(0, 1, 0);
        soulIs(1, 1, 0);
        soulIs(0, 6, 1);
        grudgeIs(0, 4, 1);
        workIs("begin 0 1 3;", 1, -1, 0);
    }

    /** "week (REFUSED from WEEK 400 on)" */
    private void weekFrom400() {
        String most = "again 30[again 30[week;];];";
        scene(souls(2) + "grudge 0 1 20;", "", "", most, most, "again 15[week;];");
        toldIs(2, 399);
        doneSteps("week;");
        scene(souls(2) + "grudge 0 1 20;", "", "", most, most, "again 16[week;];forgive 0;pass 1;");
        toldIs(2, 400);
        toldIs(3, 2);
        refusedSteps("week;");
        workIs("again 3[week;];drink 0 1;", 1, -1, 3);
        toldIs(2, 400);
    }

    // ---- promises 5, 8, 36, 37 ----

    /** "how many STEPS were done (agains not counted, nor REFUSED ones)" */
    private void howManyStepsWereDone() {
        fresh(souls(2) + "grudge 0 1 20;");
        workIs("", 0, -1, 0);
        workIs("again 3[];", 0, -1, 0);
        workIs("again 3[again 2[week;];];", 6, -1, 0);
        workIs("again 3[forgive 0;pass 1;];week;", 3, -1, 4);
        workIs("pass 0;", 0, -1, 1);
        is("each is a WORK", 5, g -> g.count(2));
    }

    /** "or the FAULT less 10 (none is)" */
    private void workWithAFaultDoesNone() {
        String[] texts = {"week;die 0;week", "week;die 0;die 9;", "week;" + times("again 1[", 7)};
        int[] due = {-9, -8, -7};
        int[] place = {15, 15, 53};
        for (int i = 0; i < texts.length; i++) {
            scene(souls(3) + "grudge 0 1 5;", "7", "1 1;", "lie 0;lie 0;");
            x.image();
            String before = all(x).replace("fault=-1", "fault=" + place[i]);
            workIs(texts[i], due[i], place[i]);
            c.sameText("none is done", before, all(x));
        }
    }

    /** "-20 ahead of that (nothing is read, there is no FAULT, the TAPE is empty then): 16 WORKS are there .." */
    private void sixteenWorks() {
        String[] fifteen = new String[15];
        for (int i = 0; i < 15; i++) {
            fifteen[i] = "week;";
        }
        scene(souls(2) + "grudge 0 1 5;", "", "", fifteen);
        is("fifteen", 15, g -> g.count(2));
        workIs("pass 0;", 0, -1, 1);
        is("sixteen", 16, g -> g.count(2));
        String before = all(x);
        for (String text : new String[] {"week;", "", "nonsense", "die 9;", times("again 1[", 7)}) {
            workIs(text, -20);
            c.sameText("nothing is done", before, all(x));
        }
        // The FAULT of an earlier text is no more, either.
        bookIs("9", -8, 0);
        workIs("week;", -20, -1);
        is("the TAPE", 0, g -> g.count(1));
        is("twenty fed", 20, g -> g.feed(0x7765656b, 0x3b202020, 0, 0, 0));
        is("a wrong n", ILLEGAL, g -> g.work(21));
        is("a wrong n", ILLEGAL, g -> g.work(-1));
        is("the TAPE stays then", 20, g -> g.count(1));
        is("the right one", -20, g -> g.work(5));
        is("the TAPE", 0, g -> g.count(1));
        // Other texts are read still.
        lawIs("9", 1, -1);
        bookIs("0 0;", 1, -1);
        is("one undone", 15, g -> g.undo());
        workIs("week;", 1);
        workIs("week;", -20);
        is("a new PARISH", 0, g -> Checks.parish(g, "soul 1;"));
        workIs("week;", 1);
    }

    /** "The latest WORK that was done is undone: how many are left; -1: there is none." */
    private void undoToTheFirst() {
        scene(souls(3) + "grudge 0 1 25;grudge 1 2 5;heir 0 2;waits 2 1;waits 1 2;", "sum", "1 1;");
        leavesAll("undo without WORKS", -1, g -> g.undo());
        String[] works = {"lie 0;pass 1;", "", "pass 1;week;forgive 0;", "begin 1 2 0;forgive 1;", "die 0;week;die 2;"};
        String[] before = new String[works.length];
        for (int i = 0; i < works.length; i++) {
            before[i] = changing(x);
            x.count(Checks.work(x, works[i]));
        }
        for (int i = works.length - 1; i >= 0; i--) {
            int left = i;
            is("undo", left, g -> g.undo());
            is("count", left, g -> g.count(2));
            c.sameText("as ahead of '" + works[i] + "'", before[i], changing(x));
        }
        is("none is left", -1, g -> g.undo());
        c.sameText("as at first", all(madeAgain()), all(x));
        // What was undone can't be done once more by undo.
        x = madeAgain();
        workIs("die 0;", 1);
        is("undo", 0, g -> g.undo());
        is("none is left", -1, g -> g.undo());
    }

    /** Texts with a FAULT, and -20, are no WORKS: undo passes over them. */
    private void undoOfOneWork() {
        fresh(souls(2));
        workIs("week;", 1);
        workIs("die 0;", 1);
        workIs("die 9;", -8, 4);
        is("undo", 1, g -> g.undo());
        toldIs(4, 3);
        toldIs(2, 1);
        is("undo", 0, g -> g.undo());
        toldIs(2, 0);
    }

    /** "how many there are; -1: there are 3" */
    private void threeImages() {
        scene(souls(2) + "grudge 0 1 25;", "7", "0 0;", "forgive 0;");
        is("image", 1, g -> g.image());
        is("image", 2, g -> g.image());
        workIs("week;", 1);
        is("image", 3, g -> g.image());
        workIs("die 0;", 1);
        String before = all(x);
        is("image", -1, g -> g.image());
        c.sameText("nothing is changed", before, all(x));
        is("count", 3, g -> g.count(0));
        is("restore", 2, g -> g.restore());
        toldIs(4, 3);
        toldIs(2, 1);
        is("image", 3, g -> g.image());
    }

    /** "All is as in the latest IMAGE, which is gone: how many are left; -1: there is none." */
    private void restoreToTheLast() {
        scene(souls(2) + "grudge 0 1 25;", "7", "0 0;", "forgive 0;forgive 0;");
        leavesAll("restore without IMAGES", -1, g -> g.restore());
        toldIs(11, 1);
        String first = changing(x);
        x.image();
        workIs("week;", 1);
        String second = changing(x);
        x.image();
        workIs("die 0;", 1);
        String third = changing(x);
        x.image();
        workIs("die 1;", 1);
        String[] due = {first, second, third};
        for (int left = 2; left >= 0; left--) {
            int k = left;
            is("restore", k, g -> g.restore());
            is("count", k, g -> g.count(0));
            c.sameText("as in the image", due[k], changing(x));
        }
        is("restore", -1, g -> g.restore());
        c.sameText("nothing is changed", first, changing(x));
        // A new IMAGE stands behind those that are left.
        x.image();
        workIs("week;", 1);
        x.image();
        x.restore();
        toldIs(2, 1);
        x.restore();
        toldIs(2, 0);
    }

    /** "An IMAGE of all that WORK changes, and of the WORKS that can be undone" */
    private void imageOfTheWorks() {
        scene(souls(3) + "grudge 0 1 25;grudge 1 0 5;heir 0 2;waits 2 1;waits 1 2;", "", "", "lie 0;pass 1;", "begin 1 2 0;");
        String before = changing(x);
        x.image();
        is("undo", 1, g -> g.undo());
        is("undo", 0, g -> g.undo());
        workIs("die 1;week;die 0;", 3);
        is("restore", 0, g -> g.restore());
        c.sameText("all that WORK changes", before, changing(x));
        is("works", 2, g -> g.count(2));
        is("undo", 1, g -> g.undo());
        toldIs(8, 1);
        soulIs(1, 1, 0);
        is("undo", 0, g -> g.undo());
        toldIs(6, 0);
        is("undo", -1, g -> g.undo());
        // An IMAGE ahead of any WORK has none to undo.
        x.image();
        workIs("week;", 1);
        is("restore", 0, g -> g.restore());
        is("works", 0, g -> g.count(2));
        is("undo", -1, g -> g.undo());
        // Sixteen come back with it.
        for (int i = 0; i < 16; i++) {
            workIs("week;", 1);
        }
        x.image();
        is("undo", 15, g -> g.undo());
        workIs("die 0;", 1);
        is("restore", 0, g -> g.restore());
        workIs("week;", -20);
        toldIs(4, 7);
        for (int left = 15; left >= 0; left--) {
            int k = left;
            is("undo", k, g -> g.undo());
            toldIs(2, k);
        }
    }

    /** An IMAGE is of what WORK changes alone: LAW, BOOK, TAPE and FAULT are as they are. */
    private void imageKeepsNoLawBookTape() {
        scene(souls(3) + "grudge 0 1 25;", "7", "0 0;");
        x.image();
        lawIs("9", 1, -1);
        bookIs("0 0;1 0;", 2, -1);
        workIs("week;", 1);
        bookIs("0", -9, 1);
        x.feed(0, 0, 0, 0, 0);
        is("restore", 0, g -> g.restore());
        grudgeIs(0, 5, 9);
        toldIs(10, 2);
        is("fault", 1, g -> g.fault());
        is("tape", 20, g -> g.count(1));
        toldIs(2, 0);
        x.work(0);
        is("undo", 0, g -> g.undo());
        grudgeIs(0, 5, 9);
        toldIs(10, 2);
    }

    /** "11 STEPS REFUSED by the latest WORK (0 ahead of any, behind undo(), restore())" */
    private void refusedByTheLatestWork() {
        fresh(souls(2) + "grudge 0 1 25;");
        toldIs(11, 0);
        workIs("again 3[pass 0;];", 0, -1, 3);
        workIs("pass 0;week;", 1, -1, 1);
        is("undo", 1, g -> g.undo());
        toldIs(11, 0);
        workIs("pass 0;pass 0;", 0, -1, 2);
        x.image();
        toldIs(11, 2);
        is("restore", 0, g -> g.restore());
        toldIs(11, 0);
        workIs("pass 0;pass 0;", 0, -1, 2);
        workIs("pass 9;", -8, 5, 2);
        is("restore without IMAGES", -1, g -> g.restore());
        toldIs(11, 2);
        workIs("", 0, -1, 0);
    }
}
