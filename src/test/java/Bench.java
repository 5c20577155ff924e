/** What the tests by hand share: a scene of texts told to a fresh gate, and how that gate is asked. */
abstract class Bench {
    static final long NO_SUCH = Checks.NO_SUCH;
    static final long ILLEGAL = Checks.ILLEGAL;
    static final int LEAST_INT = Integer.MIN_VALUE;
    static final int MOST_INT = Integer.MAX_VALUE;

    interface Ask {
        long on(LychGate gate);
    }

    final Checks c = new Checks();
    LychGate x = new LychGate();
    private String parish = "";
    private String law = "";
    private String book = "";
    private String[] works = {};
    private String pending = "";

    // ---- scenes: a gate that can be made once more, just so ----

    void fresh(String parishText) {
        scene(parishText, "", "");
    }

    /** A gate to which these were told (a LAW or BOOK of no bytes: none was). */
    void scene(String parishText, String lawText, String bookText, String... workTexts) {
        parish = parishText;
        law = lawText;
        book = bookText;
        works = workTexts;
        pending = "";
        x = madeAgain();
    }

    /** Bytes that stand on the TAPE of the scene, unread. */
    void fed(String text) {
        pending = text;
        Checks.feed(x, text);
    }

    LychGate madeAgain() {
        LychGate gate = new LychGate();
        told(parish, Checks.parish(gate, parish));
        if (!law.isEmpty()) {
            told(law, Checks.law(gate, law));
        }
        if (!book.isEmpty()) {
            told(book, Checks.book(gate, book));
        }
        for (String work : works) {
            told(work, Checks.work(gate, work));
        }
        Checks.feed(gate, pending);
        return gate;
    }

    private void told(String text, int answer) {
        c.same("a fault in the scene's '" + text + "'", 0, answer < 0 ? 1 : 0);
    }

    // ---- texts ----

    void parishIs(String text, int due, int place) {
        c.is("parish '" + text + "'", due, () -> Checks.parish(x, text));
        c.is("fault of '" + text + "'", place, () -> x.fault());
    }

    void lawIs(String text, int due, int place) {
        c.is("law '" + text + "'", due, () -> Checks.law(x, text));
        c.is("fault of '" + text + "'", place, () -> x.fault());
    }

    void workIs(String text, int due, int place) {
        c.is("work '" + text + "'", due, () -> Checks.work(x, text));
        c.is("fault of '" + text + "'", place, () -> x.fault());
    }

    void workIs(String text, int due) {
        workIs(text, due, -1);
    }

    /** So many of its STEPS are done, and so many are REFUSED. */
    void workIs(String text, int due, int place, int refused) {
        workIs(text, due, place);
        toldIs(11, refused);
    }

    void bookIs(String text, int due, int place) {
        c.is("book '" + text + "'", due, () -> Checks.book(x, text));
        c.is("fault of '" + text + "'", place, () -> x.fault());
    }

    static String times(String text, int many) {
        return text.repeat(many);
    }

    static String souls(int many) {
        return times("soul 1;", many);
    }

    /** Fourteen GRUDGES of sum 1 by SOULS 0 and 1, each against seven. */
    static String fourteenGrudges() {
        StringBuilder b = new StringBuilder();
        for (int i = 0; i < 14; i++) {
            int other = i % 7 + (i % 7 >= i / 7 ? 1 : 0);
            b.append("grudge ").append(i / 7).append(' ').append(other).append(" 1;");
        }
        return b.toString();
    }

    // ---- answers ----

    void is(String what, long due, Ask ask) {
        c.is(what, due, () -> ask.on(x));
    }

    void toldIs(int what, int due) {
        c.is("told " + what, due, () -> x.told(what));
    }

    void soulIs(int soul, int what, int due) {
        c.is("soul " + soul + " " + what, due, () -> x.soul(soul, what));
    }

    void grudgeIs(int grudge, int what, int due) {
        c.is("grudge " + grudge + " " + what, due, () -> x.grudge(grudge, what));
    }

    void canIs(int grudge, boolean due) {
        c.is("can " + grudge, due ? 1 : 0, () -> x.can(grudge) ? 1 : 0);
    }

    /** The call throws this, is counted once by its reason, and all else is as in the scene. */
    void refuses(String what, long exception, Ask ask) {
        LychGate gate = madeAgain();
        c.same(what, exception, Checks.of(() -> ask.on(gate)));
        c.same(what + ": status 0", exception == NO_SUCH ? 1 : 0, gate.status(0));
        c.same(what + ": status 1", exception == ILLEGAL ? 1 : 0, gate.status(1));
        c.sameText(what + " leaves all as it was", all(madeAgain()), all(gate));
    }

    /** The call answers so, and all is as in the scene behind it. */
    void leavesAll(String what, long due, Ask ask) {
        LychGate gate = madeAgain();
        c.same(what, due, Checks.of(() -> ask.on(gate)));
        c.same(what + ": status", 0, gate.status(0) + gate.status(1));
        c.sameText(what + " leaves all as it was", all(madeAgain()), all(gate));
    }

    /** Each of these STEPS, alone on the scene, is REFUSED and changes nothing. */
    void refusedSteps(String... steps) {
        for (String step : steps) {
            LychGate gate = madeAgain();
            int before = gate.count(2);
            c.same("'" + step + "' is done", 0, Checks.work(gate, step));
            c.same("'" + step + "' is refused", 1, gate.told(11));
            c.same("'" + step + "' as a WORK", before + 1, gate.count(2));
            c.sameText("'" + step + "' changes nothing", changing(madeAgain()), changing(gate));
        }
    }

    /** Each of these STEPS, alone on the scene, is done. */
    void doneSteps(String... steps) {
        for (String step : steps) {
            LychGate gate = madeAgain();
            c.same("'" + step + "' is done", 1, Checks.work(gate, step));
            c.same("'" + step + "' is refused", 0, gate.told(11));
        }
    }

    /** All that WORK changes, by what can be asked without a refusal. */
    static String changing(LychGate gate) {
        StringBuilder b = new StringBuilder();
        for (int what = 0; what <= 9; what++) {
            b.append(" told").append(what).append('=').append(gate.told(what));
        }
        for (int soul = 0; soul < gate.told(0); soul++) {
            b.append(" soul").append(soul).append('=').append(gate.soul(soul, 0)).append('/').append(gate.soul(soul, 1));
            b.append('/').append(gate.soul(soul, 2)).append('/').append(gate.soul(soul, 3));
            b.append('/').append(gate.soul(soul, 6));
        }
        for (int grudge = 0; grudge < gate.told(1); grudge++) {
            b.append(" grudge").append(grudge).append('=').append(gate.grudge(grudge, 0)).append('/');
            b.append(gate.grudge(grudge, 1)).append('/').append(gate.grudge(grudge, 2)).append('/');
            b.append(gate.grudge(grudge, 3)).append('/').append(gate.grudge(grudge, 4));
        }
        return b.toString();
    }

    /** All of a gate but how many calls were refused: what WORK changes, the LAW, the BOOK, the TAPE, the counts. */
    static String all(LychGate gate) {
        StringBuilder b = new StringBuilder(changing(gate));
        b.append(" lines=").append(gate.told(10)).append(" refused=").append(gate.told(11));
        b.append(" sets=").append(gate.lied(0)).append('/').append(gate.lied(1)).append('/').append(gate.lied(2));
        b.append(" fault=").append(gate.fault());
        b.append(" would=").append(gate.would(7, 5, 3, 11, 2, 1, 4)).append('/').append(gate.would(30, 9, 0, 0, 7, 400, 0));
        for (int what = 0; what <= 2; what++) {
            b.append(" count").append(what).append('=').append(gate.count(what));
        }
        return b.toString();
    }
}
