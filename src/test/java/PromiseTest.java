/** Promise by promise: ordinary inputs, the edges that the document names, and wrong inputs. */
public final class PromiseTest extends Bench {
    public static void main(String[] args) {
        PromiseTest t = new PromiseTest();
        t.newObject();
        t.feed();
        t.parish();
        t.parishFaults();
        t.law();
        t.lawFaults();
        t.work();
        t.workFaults();
        t.workLimits();
        t.waiting();
        t.deaths();
        t.book();
        t.faultPlaces();
        t.undo();
        t.told();
        t.soul();
        t.grudge();
        t.would();
        t.can();
        t.least();
        t.orderAndStuck();
        t.liedAndAsk();
        t.wayAndRings();
        t.evenAndNet();
        t.odds();
        t.steps();
        t.bread();
        t.worstFreeReadyMore();
        t.proudest();
        t.estate();
        t.mutualAndOnes();
        t.yearAndSpan();
        t.imageAndRestore();
        t.statusAndCount();
        t.c.end();
    }

    // 1
    private void newObject() {
        x = new LychGate();
        for (int what = 0; what <= 11; what++) {
            toldIs(what, 0);
        }
        c.is("new fault", -1, () -> x.fault());
        c.is("new soul", NO_SUCH, () -> x.soul(0, 0));
        c.is("new grudge", NO_SUCH, () -> x.grudge(0, 0));
        c.is("new images", 0, () -> x.count(0));
        c.is("new tape", 0, () -> x.count(1));
        c.is("new works", 0, () -> x.count(2));
        c.is("new status", 0, () -> x.status(1));
        c.is("NONE", -1, () -> LychGate.NONE);
    }

    // 2
    private void feed() {
        x = new LychGate();
        for (int i = 1; i <= 30; i++) {
            int due = 20 * i;
            c.is("feed " + i, due, () -> x.feed(0, 0, 0, 0, 0));
        }
        c.is("feed beyond 600", -1, () -> x.feed(0, 0, 0, 0, 0));
        c.is("tape stays", 600, () -> x.count(1));
        x = new LychGate();
        // "soul", " 9; ", then blanks: of each number the highest byte first.
        x.feed(0x736f756c, 0x20393b20, 0x20202020, 0x20202020, 0x20202020);
        c.is("bytes in order", 0, () -> x.parish(20));
        c.is("pride of the fed soul", 9, () -> x.soul(0, 0));
        x.feed(0x736f756c, 0x20393b80, 0, 0, 0);
        c.is("a byte above 127", -9, () -> x.parish(8));
        c.is("its place", 7, () -> x.fault());
    }

    // 3
    private void parish() {
        fresh("soul 3;soul 9;grudge 0 1 30;grudge 1 0 1;waits 0 1;waits 0 1;heir 0 1;");
        toldIs(0, 2);
        toldIs(1, 2);
        c.is("waits told twice", 2, () -> x.soul(0, 2));
        parishIs("  soul  07 ; soul1;grudge 1 0 030 ;  ", 1, -1);
        c.is("leading zeros", 7, () -> x.soul(0, 0));
        c.is("sum", 30, () -> x.grudge(0, 2));
        parishIs("soul 1;soul 1;soul 1;heir 0 1;heir 0 2;", 0, -1);
        c.is("the last heir counts", 2, () -> x.soul(0, 3));
        Checks.feed(x, "soul 1;");
        c.is("n below 0", ILLEGAL, () -> x.parish(-1));
        c.is("n beyond the tape", ILLEGAL, () -> x.parish(21));
        c.is("the tape stays", 20, () -> x.count(1));
        c.is("the first n bytes", 0, () -> x.parish(7));
        c.is("the tape is empty then", 0, () -> x.count(1));
        fresh("soul 1;soul 1;grudge 0 1 10;");
        Checks.law(x, "7");
        Checks.book(x, "0 1;");
        Checks.work(x, "forgive 0;forgive 0;");
        x.image();
        parishIs("soul 1;soul 1;grudge 0 0 1;", -8, 23);
        c.is("all stays: worth", 7, () -> x.would(0, 1, 0, 0, 0, 0, 0));
        toldIs(10, 1);
        toldIs(11, 1);
        c.is("all stays: images", 1, () -> x.count(0));
        c.is("all stays: works", 1, () -> x.count(2));
        parishIs("soul 1;", 0, -1);
        c.is("no law", 1, () -> x.would(0, 1, 0, 0, 0, 0, 0));
        toldIs(10, 0);
        toldIs(11, 0);
        c.is("no images", 0, () -> x.count(0));
        c.is("nothing to undo", 0, () -> x.count(2));
        parishIs(souls(8) + times("waits 0 1;", 52), 0, -1);
        parishIs("   ", 0, -1);
        toldIs(0, 0);
    }

    private void parishFaults() {
        x = new LychGate();
        parishIs("soul", -9, 4);
        parishIs("soul 1", -9, 6);
        parishIs("soul 1  ", -9, 8);
        parishIs("soul 0", -8, 5);
        parishIs("soul 99999999999999999999;", -8, 5);
        parishIs("soul 4294967297;", -8, 5);
        parishIs("soul x;", -9, 5);
        parishIs("soulx 1;", -9, 0);
        parishIs("Soul 1;", -9, 0);
        parishIs("soul 1;;", -9, 7);
        parishIs("soul 1; 5", -9, 8);
        parishIs("soul 1 1;", -9, 7);
        parishIs("soul 1\t;", -9, 6);
        parishIs("waits 0 1;", -8, 6);
        parishIs("soul 1;waits 0 1;", -8, 15);
        parishIs("soul 1;soul 1;heir 0 0;", -8, 21);
        parishIs("soul 1;soul 1;waits 1 1;", -8, 22);
        parishIs("soul 1;soul 1;grudge 0 1 5;grudge 1 0 5;grudge 0 1 x", -8, 49);
        parishIs(souls(8) + " soul 0;", -7, 57);
        parishIs(souls(8) + "souls 0;", -9, 56);
        String fourteen = fourteenGrudges();
        parishIs(souls(8) + fourteen, 14, -1);
        parishIs(souls(8) + fourteen + "grudge 9 9 9;", -7, 56 + 14 * 13);
        parishIs(souls(2) + times("heir 0 1;", 58) + " heir", -7, 14 + 58 * 9 + 1);
        parishIs(souls(2) + times("heir 0 1;", 58) + " hair", -9, 14 + 58 * 9 + 1);
        parishIs(souls(2) + times("heir 0 1;", 58) + "   ", 0, -1);
        for (String word : new String[] {"soul 1;", "grudge 0 1 1;", "waits 0 1;"}) {
            parishIs(souls(2) + times("heir 0 1;", 58) + word, -7, 14 + 58 * 9);
        }
        parishIs(times(" ", 596) + "soul", -9, 600);
        parishIs(times(" ", 593) + "soul 1;", 0, -1);
        parishIs("soulz 1;", -9, 0);
    }

    // 4
    private int worthBy(String law) {
        Checks.law(x, law);
        return x.would(25, 7, 3, 12, 2, 10, 5);
    }

    private void law() {
        fresh("soul 1;");
        c.is("without", 3, () -> x.would(25, 7, 3, 12, 2, 10, 5));
        lawIs("sum", 1, -1);
        String[] texts = {"sum-10", "pride", "times", "owed", "others", "week", "soul", "least[3,4]", "most[3,4]",
            "2+3*4", "(2+3)*4", "10-3-2", "17/5", "17%5", "(0-17)/5+10", "(0-17)%5+10", "5/0", "5%0+1", "0-5", "999",
            "20/3*3", "2*7%4", " least [ 9 , most[ 2,5] ] ", "999*999*999*999*999/999/999/99"};
        int[] due = {15, 7, 3, 12, 2, 10, 5, 3, 4,
            14, 20, 5, 3, 2, 7, 8, 0, 1, 0, 20,
            18, 2, 5, 0};
        // 999 to the 5th wraps, as Java's own ints do.
        due[23] = Math.max(0, Math.min(20, 999 * 999 * 999 * 999 * 999 / 999 / 999 / 99));
        for (int i = 0; i < texts.length; i++) {
            String text = texts[i];
            c.is("worth by " + text, due[i], () -> worthBy(text));
        }
        c.is("the least of 32 bits by -1", 0, () -> worthBy("(512*512*512*16)/(0-1)"));
        c.is("six open", 1, () -> worthBy("((((((1))))))"));
        c.is("six open, closed, open", 3, () -> worthBy("((((((1))))))+least[(((((2))))),3]"));
        String deep = "1+1*least[1,1+1*least[1,1+1*least[1,1+1*least[1,1+1*least[1,1+1*least[9,2+3*4]]]]]]";
        c.is("values that wait", 2, () -> worthBy(deep));
        Checks.feed(x, times("1+", 75) + "1         ");
        c.is("n above 150", ILLEGAL, () -> x.law(151));
        c.is("the tape stays", 160, () -> x.count(1));
        c.is("n of 150", -9, () -> x.law(150));
        c.is("its fault", 150, () -> x.fault());
        c.is("the tape is empty then", 0, () -> x.count(1));
        lawIs(times("1+", 74) + "1 ", 1, -1);
        c.is("long law", 20, () -> x.would(0, 1, 0, 0, 0, 0, 0));
        Checks.feed(x, "5");
        c.is("n below 0", ILLEGAL, () -> x.law(-1));
        c.is("n beyond the tape", ILLEGAL, () -> x.law(21));
    }

    private void lawFaults() {
        fresh("soul 1;");
        lawIs("4", 1, -1);
        lawIs("", -9, 0);
        lawIs("   ", -9, 3);
        lawIs("1 2", -9, 2);
        lawIs("1+", -9, 2);
        lawIs("+1", -9, 0);
        lawIs("-1", -9, 0);
        lawIs("1;", -9, 1);
        lawIs("1000", -8, 0);
        lawIs("0999", 1, -1);
        lawIs("4", 1, -1);
        lawIs("(1", -9, 2);
        lawIs("1)", -9, 1);
        lawIs("least(1,2)", -9, 5);
        lawIs("least[1]", -9, 7);
        lawIs("most[1,2", -9, 8);
        lawIs("most[1,2)", -9, 8);
        lawIs("sums", -9, 0);
        lawIs("2*soul2", -9, 6);
        lawIs("forgive", -9, 0);
        lawIs("((((((least[1,2]))))))", -7, 6);
        lawIs("most[1,((((( most[", -7, 13);
        lawIs("((((((leasts", -9, 6);
        lawIs("(((((((1)))))))", -7, 6);
        lawIs("least[1,((((((1", -7, 13);
        lawIs("least[((((((1", -7, 11);
        lawIs("((((((1000", -8, 6);
        c.is("all stays", 4, () -> x.would(0, 1, 0, 0, 0, 0, 0));
    }

    // 5
    private void work() {
        fresh("soul 1;soul 1;soul 1;grudge 0 1 10;grudge 1 0 20;grudge 2 0 5;");
        workIs("forgive 0;lie 1;", 2);
        toldIs(3, 5);
        toldIs(6, 3);
        toldIs(7, 3);
        toldIs(8, 2);
        workIs("forgive 0;lie 0;pass 2;pass 2;pass 0;", 2);
        toldIs(11, 3);
        toldIs(3, 3);
        toldIs(9, 5);
        workIs("drink 1 0;drink 0 1;drink 2 2;drink 0 2;", 1);
        toldIs(6, 0);
        toldIs(3, 3);
        toldIs(7, 3);
        workIs("forgive 0;", 1);
        c.is("forgiven twice", 2, () -> x.grudge(0, 4));
        workIs("week;", 1);
        for (int what : new int[] {3, 6, 7, 8, 9}) {
            toldIs(what, 0);
        }
        toldIs(2, 1);
        c.is("times stay", 2, () -> x.grudge(0, 4));
        c.is("forgavings stay", 2, () -> x.soul(0, 6));
        workIs("pass 0;", 0);
        workIs("", 0);
        Checks.feed(x, times("week;", 31));
        c.is("n above 150", ILLEGAL, () -> x.work(151));
        c.is("n below 0", ILLEGAL, () -> x.work(-1));
        c.is("the tape stays", 160, () -> x.count(1));
        c.is("n of 150", 30, () -> x.work(150));
        toldIs(2, 31);
        Checks.feed(x, "week;");
        c.is("n beyond the tape", ILLEGAL, () -> x.work(21));
        x.book(0);
        workIs("forgive", -9, 7);
        toldIs(2, 31);
    }

    private void workFaults() {
        fresh("soul 1;soul 1;soul 1;grudge 0 1 10;");
        workIs("week", -9, 4);
        workIs("week;forgive 1;", -8, 13);
        toldIs(2, 0);
        c.is("no work is there", 0, () -> x.count(2));
        workIs("lie 1;", -8, 4);
        workIs("drink 0 3;", -8, 8);
        workIs("drink 0;", -9, 7);
        workIs("begin 0 1 3;", -8, 10);
        workIs("begin 3 1 0;", -8, 6);
        workIs("pass 3;", -8, 5);
        workIs("die 3;", -8, 4);
        workIs("again 31[];", -8, 6);
        workIs("again 1;", -9, 7);
        workIs("again [];", -9, 6);
        workIs("again 1[week];", -9, 12);
        workIs("again 1[week;]", -9, 14);
        workIs("again 1[week;", -9, 13);
        workIs("again 1[];]", -9, 10);
        workIs("]", -9, 0);
        workIs("weeks;", -9, 0);
        workIs("soul 1;", -9, 0);
        workIs(times("again 1[", 6) + times("];", 6), 0);
        workIs(times("again 1[", 6) + " again 0[" + times("];", 7), -7, 49);
        workIs(times("again 1[", 6) + "agains", -9, 48);
        workIs("again 1[];again 1[" + times("again 1[", 5) + times("];", 6), 0);
        fresh("");
        workIs("forgive 0;", -8, 8);
        workIs("pass 0;", -8, 5);
        workIs(" week ; ", 1);
    }

    private void workLimits() {
        fresh("soul 1;soul 1;grudge 0 1 10;");
        workIs("again 30[week;];", 30);
        workIs("again 0[week;];week;", 1);
        toldIs(2, 31);
        // 1 for the outer, then 31 for each of its rounds: 6 of them make 187, and 12 weeks come behind.
        workIs("again 30[again 30[week;];];", 6 * 30 + 12);
        workIs("again 30[again 30[forgive 0;];];week;", 1);
        toldIs(11, 191);
        c.is("the week behind is left out", 31 + 192, () -> x.told(2));
        // An again counts each time it is come to, an empty one, too: 1, then 3 for each round.
        workIs("again 30[again 5[];again 1[week;];];", 30);
        workIs("again 29[again 5[];again 1[week;pass 1;];again 30[];again 0[];];", 29);
        toldIs(2, 31 + 192 + 30 + 29);
        // 400 less 282 weeks are done of 6 times 30 and 12; the others are refused.
        workIs("again 30[again 30[week;];];", 118);
        toldIs(11, 192 - 118);
        toldIs(2, 400);
        workIs("week;again 2[week;];", 0);
        toldIs(11, 3);
        fresh("soul 1;");
        // 1, then 11 for each round: 18 rounds are 199 begun, the 200th is the again of the next.
        workIs("again 30[again 5[again 1[week;];];];", 5 * 18);
        // 1, then 6 for each round: 30 rounds are 181 begun; an again and 18 weeks come behind.
        workIs("again 30[again 1[again 1[again 1[again 1[again 1[week;];];];];];];again 30[week;];", 30 + 18);
        toldIs(11, 0);
        fresh("soul 1;");
        for (int i = 0; i < 16; i++) {
            workIs("week;", 1);
        }
        workIs("week;", -20);
        workIs("nonsense", -20);
        c.is("the tape is empty then", 0, () -> x.count(1));
        toldIs(2, 16);
        Checks.feed(x, "week;");
        c.is("n wrong ahead of that", ILLEGAL, () -> x.work(21));
        x.parish(20);
        c.is("a fault is there", 0, () -> x.fault());
        workIs("week;", -20, -1);
        c.is("undo", 15, () -> x.undo());
        workIs("week;", 1);
    }

    private void waiting() {
        fresh(souls(5) + "grudge 0 1 1;grudge 1 0 1;grudge 2 0 1;grudge 3 0 1;waits 0 1;waits 1 0;waits 2 3;waits 4 2;");
        toldIs(7, 0);
        workIs("forgive 0;forgive 1;forgive 2;", 0);
        workIs("begin 0 0 2;begin 0 1 1;begin 0 1 0;begin 2 3 0;begin 0 2 3;", 0);
        workIs("begin 1 0 2;begin 0 1 3;", 1);
        toldIs(8, 4);
        toldIs(7, 0);
        workIs("forgive 0;forgive 1;forgive 2;forgive 3;forgive 2;", 4);
        toldIs(7, 15);
        workIs("week;forgive 0;", 1);
        workIs("die 1;forgive 0;", 1);
        c.is("0 waits for a dead one", 1, () -> x.soul(0, 1));
        c.is("4 waits", 0, () -> x.soul(4, 1));
        workIs("die 3;forgive 2;", 2);
        c.is("4 waits for one who began", 1, () -> x.soul(4, 1));
        c.is("a dead one can't begin", 0, () -> x.soul(3, 1));
        workIs("begin 0 1 2;drink 0 1;pass 1;pass 3;die 3;", 0);
        // Seen to for two alone: a third whom one of them waits for is waited for still.
        fresh(souls(4) + "grudge 0 1 1;waits 0 1;waits 1 0;waits 0 2;");
        workIs("begin 0 1 3;forgive 0;", 1);
        c.is("1 can begin", 1, () -> x.soul(1, 1));
    }

    private void deaths() {
        fresh(souls(4) + "grudge 0 1 9;grudge 0 2 1;grudge 0 3 9;grudge 3 1 4;grudge 2 0 8;grudge 1 2 6;heir 0 3;");
        workIs("forgive 0;forgive 4;forgive 3;", 3);
        // By 0: against 1 (3 holds one already), against 2 (half of 1 is 0), against 3 (the heir): all gone.
        workIs("die 0;", 1);
        toldIs(5, 8 + 32);
        toldIs(6, 8);
        toldIs(4, 14);
        toldIs(7, 1 + 4 + 8);
        c.is("sum of a gone one", 0, () -> x.grudge(0, 2));
        c.is("worth of a gone one", 0, () -> x.grudge(0, 5));
        c.is("A of a gone one", 0, () -> x.grudge(0, 0));
        c.is("B of a gone one", 2, () -> x.grudge(1, 1));
        c.is("a gone one is not forgiven", 0, () -> x.grudge(0, 3));
        c.is("how often a gone one was", 1, () -> x.grudge(0, 4));
        workIs("forgive 4;forgive 0;lie 1;", 0);
        fresh(souls(4) + "grudge 0 1 9;grudge 0 2 30;grudge 3 0 5;heir 0 3;heir 3 2;");
        workIs("forgive 0;die 0;", 2);
        toldIs(5, 3);
        toldIs(6, 0);
        toldIs(3, 1);
        c.is("it is the heir's", 3, () -> x.grudge(0, 0));
        c.is("half, cut", 4, () -> x.grudge(0, 2));
        c.is("times 0", 0, () -> x.grudge(0, 4));
        c.is("forgavings of the dead", 1, () -> x.soul(0, 6));
        workIs("forgive 0;", 1);
        c.is("forgavings of the heir", 1, () -> x.soul(3, 6));
        workIs("die 3;", 1);
        toldIs(5, 1);
        c.is("the heir's heir", 2, () -> x.grudge(0, 0));
        c.is("half again", 2, () -> x.grudge(0, 2));
        workIs("die 2;die 1;", 2);
        toldIs(5, 0);
        toldIs(4, 0);
        // An heir who is dead gets nothing.
        fresh(souls(3) + "grudge 0 1 9;heir 0 2;");
        workIs("die 2;die 0;", 2);
        toldIs(5, 0);
    }

    // 6
    private void book() {
        fresh(souls(3) + "grudge 0 1 1;grudge 2 1 1;");
        bookIs("1 8; 0 0 ;", 2, -1);
        toldIs(10, 2);
        bookIs("1 9;", -8, 2);
        bookIs("3 0;", -8, 0);
        bookIs("1 0;1 0;", -8, 4);
        bookIs("1 0;1 9", -8, 4);
        bookIs("1", -9, 1);
        bookIs("1;", -9, 1);
        bookIs("1 1", -9, 3);
        bookIs("x", -9, 0);
        bookIs("1 1 1;", -9, 4);
        toldIs(10, 2);
        bookIs("", 0, -1);
        toldIs(10, 0);
        Checks.feed(x, times(" ", 61));
        c.is("n above 60", ILLEGAL, () -> x.book(61));
        c.is("n below 0", ILLEGAL, () -> x.book(-1));
        c.is("the tape stays", 80, () -> x.count(1));
        c.is("n of 60", 0, () -> x.book(60));
        Checks.feed(x, "1");
        c.is("n beyond the tape", ILLEGAL, () -> x.book(21));
        fresh("");
        bookIs("0 0;", -8, 0);
    }

    // 7
    private void faultPlaces() {
        x = new LychGate();
        c.is("without a text", -1, () -> x.fault());
        parishIs("soul 0;", -8, 5);
        c.is("it stays", 5, () -> x.fault());
        Checks.feed(x, "soul 1;");
        c.is("no text", ILLEGAL, () -> x.parish(-1));
        c.is("the latest text's still", 5, () -> x.fault());
        c.is("text", 0, () -> x.parish(7));
        c.is("none", -1, () -> x.fault());
    }

    // 8
    private void undo() {
        fresh(souls(3) + "grudge 0 1 12;heir 0 2;");
        c.is("none", -1, () -> x.undo());
        workIs("lie 0;pass 1;pass 1;", 2);
        workIs("die 0;week;", 2);
        c.is("undo", 1, () -> x.undo());
        toldIs(11, 0);
        toldIs(4, 7);
        toldIs(2, 0);
        toldIs(3, 1);
        toldIs(6, 1);
        toldIs(7, 1);
        toldIs(8, 1);
        toldIs(9, 2);
        c.is("A", 0, () -> x.grudge(0, 0));
        c.is("S", 12, () -> x.grudge(0, 2));
        c.is("times", 1, () -> x.grudge(0, 4));
        c.is("undo", 0, () -> x.undo());
        c.is("times", 0, () -> x.grudge(0, 4));
        c.is("forgave", 0, () -> x.soul(0, 6));
        toldIs(3, 0);
        c.is("none", -1, () -> x.undo());
        Checks.law(x, "5");
        Checks.book(x, "0 1;");
        workIs("week;", 1);
        x.undo();
        c.is("the law stays", 5, () -> x.grudge(0, 5));
        toldIs(10, 1);
    }

    // 9
    private void told() {
        fresh(souls(3) + "grudge 0 1 12;grudge 1 2 9;");
        toldIs(0, 3);
        toldIs(1, 2);
        toldIs(4, 7);
        toldIs(5, 3);
        workIs("forgive 1;forgive 1;die 2;", 2);
        toldIs(1, 2);
        toldIs(3, 1);
        toldIs(4, 3);
        toldIs(5, 1);
        toldIs(6, 0);
        toldIs(7, 2);
        toldIs(11, 1);
        workIs("oh", -9, 0);
        toldIs(11, 1);
        c.is("told -1", ILLEGAL, () -> x.told(-1));
        c.is("told 12", ILLEGAL, () -> x.told(12));
    }

    // 10
    private void soul() {
        fresh("soul 4;soul 9;soul 1;grudge 0 1 12;grudge 0 2 3;grudge 2 0 7;waits 0 1;waits 0 2;heir 1 0;");
        int[] due = {4, 0, 6, -1, 15, 7, 0};
        for (int what = 0; what <= 6; what++) {
            int k = what;
            c.is("soul 0 " + k, due[k], () -> x.soul(0, k));
        }
        c.is("soul 1 3", 0, () -> x.soul(1, 3));
        c.is("soul 2 1", 1, () -> x.soul(2, 1));
        workIs("lie 2;drink 0 2;forgive 2;", 3);
        c.is("soul 2 6", 2, () -> x.soul(2, 6));
        c.is("soul 0 7", ILLEGAL, () -> x.soul(0, 7));
        c.is("soul 0 -1", ILLEGAL, () -> x.soul(0, -1));
        c.is("soul 3 7", NO_SUCH, () -> x.soul(3, 7));
        c.is("soul -1 0", NO_SUCH, () -> x.soul(-1, 0));
    }

    // 11
    private void grudge() {
        fresh("soul 4;soul 9;soul 1;grudge 2 1 25;grudge 1 2 8;grudge 0 1 1;");
        int[] due = {2, 1, 25, 0, 0, 3};
        for (int what = 0; what <= 5; what++) {
            int k = what;
            c.is("grudge 0 " + k, due[k], () -> x.grudge(0, k));
        }
        lawIs("owed+others*10", 1, -1);
        c.is("owed and others", 18, () -> x.grudge(0, 5));
        c.is("others of 2", 10, () -> x.grudge(2, 5));
        lawIs("pride+soul+times+week", 1, -1);
        workIs("forgive 0;week;week;", 3);
        c.is("pride, soul, times, week", 1 + 2 + 1 + 2, () -> x.grudge(0, 5));
        c.is("grudge 0 6", ILLEGAL, () -> x.grudge(0, 6));
        c.is("grudge 0 -1", ILLEGAL, () -> x.grudge(0, -1));
        c.is("grudge 3 6", NO_SUCH, () -> x.grudge(3, 6));
        c.is("grudge -1 0", NO_SUCH, () -> x.grudge(-1, 0));
        fresh("soul 1;soul 1;grudge 0 1 10;");
        lawIs("5+times*3", 1, -1);
        workIs("forgive 0;", 1);
        c.same("worth is ahead of the forgiving", 5, x.told(3));
        c.is("worth were it forgiven now", 8, () -> x.grudge(0, 5));
    }

    // 12
    private void would() {
        x = new LychGate();
        c.is("least of all", 1, () -> x.would(0, 1, 0, 0, 0, 0, 0));
        c.is("most of all", 4, () -> x.would(30, 9, 999, 30, 7, 400, 7));
        int[][] wrong = {{31, 1, 0, 0, 0, 0, 0}, {-1, 1, 0, 0, 0, 0, 0}, {0, 0, 0, 0, 0, 0, 0}, {0, 10, 0, 0, 0, 0, 0},
            {0, 1, -1, 0, 0, 0, 0}, {0, 1, 1000, 0, 0, 0, 0}, {0, 1, 0, -1, 0, 0, 0}, {0, 1, 0, 31, 0, 0, 0},
            {0, 1, 0, 0, -1, 0, 0}, {0, 1, 0, 0, 8, 0, 0}, {0, 1, 0, 0, 0, -1, 0}, {0, 1, 0, 0, 0, 401, 0},
            {0, 1, 0, 0, 0, 0, -1}, {0, 1, 0, 0, 0, 0, 8}};
        for (int[] w : wrong) {
            c.is("would of a wrong one", ILLEGAL, () -> x.would(w[0], w[1], w[2], w[3], w[4], w[5], w[6]));
        }
        c.is("each is counted once", wrong.length, () -> x.status(1));
    }

    // 13
    private void can() {
        fresh(souls(3) + "grudge 0 1 10;grudge 1 0 10;grudge 2 0 1;waits 0 1;");
        c.is("0 waits", 0, () -> x.can(0) ? 1 : 0);
        c.is("1 can", 1, () -> x.can(1) ? 1 : 0);
        workIs("forgive 1;", 1);
        c.is("0 can then", 1, () -> x.can(0) ? 1 : 0);
        c.is("1 is forgiven", 0, () -> x.can(1) ? 1 : 0);
        workIs("die 0;", 1);
        c.is("it is gone", 0, () -> x.can(2) ? 1 : 0);
        c.is("no such", NO_SUCH, () -> x.can(3) ? 1 : 0);
        c.is("no such", NO_SUCH, () -> x.can(-1) ? 1 : 0);
    }

    // 14
    private void least() {
        fresh("soul 3;soul 1;soul 2;grudge 0 1 30;grudge 1 0 10;grudge 2 0 10;grudge 1 2 10;grudge 2 1 1;");
        // Worths 4 2 2 2 1 by prides 3 1 2 1 2.
        int[][] due = {{0, 0, 0}, {1, 1, 2}, {2, 1, 2}, {3, 2, 10}, {4, 2, 10}, {5, 4, 3}, {6, 4, 3}, {8, 5, 11},
            {11, 9, 31}, {12, -1, -1}, {99, -1, -1}};
        for (int[] d : due) {
            c.is("least pride for " + d[0], d[1], () -> x.least(d[0], 0));
            c.is("least set for " + d[0], d[2], () -> x.least(d[0], 1));
        }
        workIs("forgive 1;", 1);
        c.is("swings count", 0, () -> x.least(2, 0));
        c.is("a forgiven one is none of them", 8, () -> x.least(3, 1));
        c.is("least -1", ILLEGAL, () -> x.least(-1, 0));
        c.is("least 100", ILLEGAL, () -> x.least(100, 0));
        c.is("least what", ILLEGAL, () -> x.least(1, 2));
        c.is("least what", ILLEGAL, () -> x.least(1, -1));
        lawIs("0", 1, -1);
        c.is("worth nothing", -1, () -> x.least(3, 0));
        fresh(souls(6) + "grudge 0 1 1;grudge 1 0 1;grudge 2 0 1;grudge 3 2 1;grudge 4 1 1;grudge 5 1 1;");
        lawIs("20", 1, -1);
        c.is("the greatest n", 5, () -> x.least(99, 0));
        c.is("the greatest n", 31, () -> x.least(99, 1));
    }

    // 15, 16
    private void orderAndStuck() {
        fresh(souls(5) + "waits 0 3;waits 3 4;waits 1 0;");
        int[] due = {2, 4, 3, 0, 1, -1};
        for (int k = 0; k < due.length; k++) {
            int at = k;
            c.is("order " + k, due[k], () -> x.order(at));
        }
        c.is("order of no such", -1, () -> x.order(8));
        c.is("order -1", ILLEGAL, () -> x.order(-1));
        c.is("nobody is stuck", 0, () -> x.stuck());
        workIs("die 4;", 1);
        c.is("a dead one is in no row", 2, () -> x.order(0));
        c.is("3 then", 3, () -> x.order(1));
        c.is("four live", -1, () -> x.order(4));
        fresh(souls(6) + "grudge 0 1 1;waits 0 1;waits 1 2;waits 2 1;waits 3 4;waits 5 0;");
        c.is("behind a ring", 1 + 2 + 4 + 32, () -> x.stuck());
        c.is("someone is stuck", -1, () -> x.order(0));
        workIs("begin 1 2 3;", 1);
        c.is("what is seen to is not asked", 39, () -> x.stuck());
        workIs("die 2;", 1);
        c.is("the ring is broken", 0, () -> x.stuck());
        c.is("order then", 1, () -> x.order(0));
    }

    // 17, 18
    private void liedAndAsk() {
        fresh(souls(4) + "grudge 0 3 1;grudge 1 3 1;grudge 2 3 1;grudge 0 2 1;grudge 1 2 1;");
        c.is("all sets", 16, () -> x.lied(0));
        c.is("the first", 0, () -> x.lied(1));
        c.is("sure", 0, () -> x.lied(2));
        workIs("forgive 0;forgive 1;forgive 2;lie 3;", 4);
        bookIs("3 3;", 1, -1);
        c.is("sets", 2, () -> x.lied(0));
        c.is("the first", 7, () -> x.lied(1));
        c.is("sure", 7, () -> x.lied(2));
        bookIs("3 2;", 1, -1);
        c.is("sets", 6, () -> x.lied(0));
        c.is("the first", 3, () -> x.lied(1));
        c.is("sure", 0, () -> x.lied(2));
        // 2 was forgiven by 0 alone: he lied in 4 of the 6 sets; nobody forgave 0 and 1.
        c.is("ask", 2, () -> x.ask(0));
        c.is("ask", 4, () -> x.ask(1));
        bookIs("3 4;", 1, -1);
        c.is("no sets", 0, () -> x.lied(0));
        c.is("none", -1, () -> x.lied(1));
        c.is("sure without", 0, () -> x.lied(2));
        c.is("ask without sets", 0, () -> x.ask(0));
        c.is("ask without sets", 0, () -> x.ask(1));
        bookIs("3 1;2 1;0 0;1 0;", 4, -1);
        c.is("all are in lines", -1, () -> x.ask(0));
        c.is("all are in lines", -1, () -> x.ask(1));
        c.is("sure", 1, () -> x.lied(2));
        bookIs("3 0;", 1, -1);
        workIs("die 2;die 1;", 2);
        c.is("living souls alone", 2, () -> x.lied(0));
        fresh(souls(8) + "grudge 1 0 1;grudge 2 0 1;grudge 3 0 1;grudge 4 0 1;grudge 5 0 1;grudge 6 0 1;grudge 7 0 1;"
            + "grudge 0 1 1;grudge 2 1 1;grudge 3 1 1;grudge 4 1 1;");
        workIs("again 1[forgive 0;forgive 1;forgive 2;forgive 3;forgive 4;forgive 5;forgive 6;forgive 7;];", 8);
        bookIs("1 1;", 1, -1);
        // 0 lied to 1, so of seven who forgave 0 any may have: 35 sets by 3 and as many by 4.
        c.is("seven forgave", 128, () -> x.lied(0));
        c.is("seven forgave", 0, () -> x.ask(0));
        c.is("seven forgave", 35, () -> x.ask(1));
        bookIs("0 7;", 1, -1);
        c.is("seven lied", 254, () -> x.lied(1));
        c.is("lied 3", ILLEGAL, () -> x.lied(3));
        c.is("lied -1", ILLEGAL, () -> x.lied(-1));
        c.is("ask 2", ILLEGAL, () -> x.ask(2));
        c.is("ask -1", ILLEGAL, () -> x.ask(-1));
    }

    // 19, 20
    private void wayAndRings() {
        fresh(souls(8) + "grudge 0 1 1;grudge 1 2 1;grudge 2 3 1;grudge 3 4 1;grudge 4 5 1;grudge 5 6 1;grudge 6 7 1;");
        c.is("the longest way", 7, () -> x.way(0, 7));
        c.is("one soul", 0, () -> x.way(4, 4));
        c.is("no way back", -1, () -> x.way(7, 0));
        c.is("no rings", 0, () -> x.rings());
        c.is("no such soul", NO_SUCH, () -> x.way(8, 0));
        c.is("no such other", NO_SUCH, () -> x.way(0, 8));
        c.is("no such other", NO_SUCH, () -> x.way(0, -1));
        fresh(souls(8) + "grudge 0 1 1;grudge 1 2 1;grudge 2 3 1;grudge 3 4 1;grudge 4 5 1;grudge 5 6 1;grudge 6 7 1;"
            + "grudge 7 0 1;grudge 0 5 1;");
        c.is("shorter", 3, () -> x.way(0, 7));
        c.is("round", 7, () -> x.way(1, 0));
        c.is("a ring of all", 255, () -> x.rings());
        workIs("forgive 0;die 3;", 2);
        c.is("a ring of five", 1 + 32 + 64 + 128, () -> x.rings());
        c.is("forgiven ones are there", 1, () -> x.way(0, 1));
        c.is("gone ones are not", -1, () -> x.way(2, 4));
    }

    // 21, 22
    private void evenAndNet() {
        fresh(souls(6) + "grudge 0 1 5;grudge 2 3 7;grudge 4 5 5;");
        c.is("three pairs", 3, () -> x.even());
        fresh(souls(5) + "grudge 0 1 5;grudge 2 3 5;grudge 1 2 5;grudge 4 0 2;grudge 0 4 2;");
        c.is("a chain", 1, () -> x.even());
        c.is("net", 5, () -> x.net(0));
        c.is("net", 0, () -> x.net(1));
        c.is("net", -5, () -> x.net(3));
        c.is("net", 0, () -> x.net(4));
        // 8 owed against 1, 7: the sums 3+5 and 8 are apart from 4 and 4.
        fresh(souls(6) + "grudge 0 1 3;grudge 2 1 5;grudge 3 4 9;grudge 5 4 1;");
        c.is("two groups of three", 4, () -> x.even());
        fresh(souls(4) + "grudge 0 2 3;grudge 1 2 2;grudge 1 3 1;");
        // Nets 3, 3, -5, -1: no pair is even.
        c.is("one group of four", 3, () -> x.even());
        workIs("forgive 0;", 1);
        c.is("forgiven ones count", 3, () -> x.net(0));
        c.is("no such", NO_SUCH, () -> x.net(4));
        c.is("no such", NO_SUCH, () -> x.net(-1));
    }

    // 23
    private void odds() {
        x = new LychGate();
        long[][] due = {{0, 0, 1, 1}, {0, 16, 1, 1}, {1, 16, 0, 1}, {2, 16, 1, 1}, {1, 1, 15, 16}, {2, 4, 5, 8}, {12, 8, 1, 2},
            {3, 2, 91, 128}, {12, 0, 1, 1}};
        for (long[] d : due) {
            c.is("odds above " + d[0] + " " + d[1], d[2], () -> x.odds((int) d[0], (int) d[1], 0));
            c.is("odds below " + d[0] + " " + d[1], d[3], () -> x.odds((int) d[0], (int) d[1], 1));
        }
        // (8 to the 12th and 7 to the 12th) of twice 8 to the 12th.
        c.is("odds 12 1", 68719476736L + 13841287201L, () -> x.odds(12, 1, 0));
        c.is("odds 12 1", 2 * 68719476736L, () -> x.odds(12, 1, 1));
        int[][] wrong = {{-1, 0, 0}, {13, 0, 0}, {0, -1, 0}, {0, 17, 0}, {0, 0, -1}, {0, 0, 2}};
        for (int[] w : wrong) {
            c.is("odds of a wrong one", ILLEGAL, () -> x.odds(w[0], w[1], w[2]));
        }
    }

    // 24
    private void steps() {
        x = new LychGate();
        int[][] due = {{5, 9, 1, 11, 0}, {9, 5, 2, 0, 18}, {5, 5, 2, 0, 10}, {0, 0, 4, 0, 0}, {3, 0, 2, 0, 6},
            {0, 3, 1, 11, 0}, {99, 99, 2, 0, 198}};
        for (int[] d : due) {
            for (int what = 0; what <= 2; what++) {
                int k = what;
                c.is("steps " + d[0] + " " + d[1] + " " + k, d[2 + k], () -> x.steps(d[0], d[1], k));
            }
        }
        int[][] wrong = {{-1, 0, 0}, {100, 0, 0}, {0, -1, 0}, {0, 100, 0}, {0, 0, -1}, {0, 0, 3}};
        for (int[] w : wrong) {
            c.is("steps of a wrong one", ILLEGAL, () -> x.steps(w[0], w[1], w[2]));
        }
    }

    // 25
    private void bread() {
        fresh("soul 3;soul 1;soul 9;soul 2;");
        int[][] due = {{0, 15, 8, 2}, {1, 15, 8, 1}, {2, 15, 8, 2}, {3, 15, 8, 2}, {2, 15, 3, 0}, {2, 15, 4, 1},
            {2, 15, 14, 8}, {2, 15, 15, 9}, {2, 15, 99, 9}, {2, 4, 5, 5}, {2, 11, 99, 0}, {0, 0, 9, 0}, {0, 5, 7, 3}, {2, 5, 7, 4}};
        for (int[] d : due) {
            c.is("bread " + d[0] + " " + d[1] + " " + d[2], d[3], () -> x.bread(d[0], d[1], d[2]));
        }
        workIs("die 2;", 1);
        c.is("dead ones, too", 4, () -> x.bread(2, 5, 7));
        c.is("bits of no souls", ILLEGAL, () -> x.bread(0, 16, 1));
        c.is("bits of no souls", ILLEGAL, () -> x.bread(0, -1, 1));
        c.is("n", ILLEGAL, () -> x.bread(0, 1, -1));
        c.is("n", ILLEGAL, () -> x.bread(0, 1, 100));
        c.is("no such, ahead of others", NO_SUCH, () -> x.bread(4, 16, 100));
        c.is("no such", NO_SUCH, () -> x.bread(-1, 1, 1));
    }

    // 26 to 29
    private void worstFreeReadyMore() {
        fresh(souls(5) + "grudge 0 1 5;grudge 1 0 20;grudge 2 0 20;grudge 2 1 30;waits 1 0;");
        c.is("worst", 3, () -> x.worst(0));
        c.is("worst", 30, () -> x.worst(1));
        c.is("free", 8 + 16, () -> x.free());
        c.is("ready", 1 + 4 + 8, () -> x.ready(0));
        c.is("ready", 1 + 3 + 4, () -> x.ready(1));
        c.is("more", -1, () -> x.more(0));
        c.is("more", -1, () -> x.more(1));
        c.is("more", 2, () -> x.more(2));
        c.is("more", 0, () -> x.more(4));
        workIs("forgive 0;die 2;", 2);
        c.is("worst", 1, () -> x.worst(0));
        c.is("worst", 20, () -> x.worst(1));
        c.is("free, dead ones, too", 4 + 8 + 16, () -> x.free());
        c.is("ready", 2, () -> x.ready(0));
        workIs("die 0;die 1;", 2);
        c.is("no worst", -1, () -> x.worst(0));
        c.is("no worst", -1, () -> x.worst(1));
        c.is("none ready", 0, () -> x.ready(0));
        c.is("all are free", 31, () -> x.free());
        fresh(souls(3) + "grudge 0 1 7;grudge 1 2 7;");
        c.is("of alike ones the first", 0, () -> x.worst(0));
        c.is("worst 2", ILLEGAL, () -> x.worst(2));
        c.is("worst -1", ILLEGAL, () -> x.worst(-1));
        c.is("ready 2", ILLEGAL, () -> x.ready(2));
        c.is("ready -1", ILLEGAL, () -> x.ready(-1));
        c.is("more 3", NO_SUCH, () -> x.more(3));
        c.is("more -1", NO_SUCH, () -> x.more(-1));
    }

    // 30
    private void proudest() {
        fresh("soul 3;soul 8;soul 8;soul 9;");
        c.is("proudest", 3, () -> x.proudest(0));
        c.is("proudest", 9, () -> x.proudest(1));
        workIs("die 3;", 1);
        c.is("of alike ones the first", 1, () -> x.proudest(0));
        workIs("die 1;die 2;die 0;", 3);
        c.is("nobody lives", -1, () -> x.proudest(0));
        c.is("nobody lives", -1, () -> x.proudest(1));
        c.is("proudest 2", ILLEGAL, () -> x.proudest(2));
        c.is("proudest -1", ILLEGAL, () -> x.proudest(-1));
    }

    // 31
    private void estate() {
        fresh(souls(5) + "grudge 0 1 9;grudge 0 2 1;grudge 0 3 9;grudge 0 4 2;grudge 3 1 4;heir 0 3;heir 3 0;");
        c.is("estate of 0", 8, () -> x.estate(0));
        c.is("estate of 3", 0, () -> x.estate(3));
        c.is("without an heir", 0, () -> x.estate(1));
        c.is("nothing stays changed", 31, () -> x.told(5));
        workIs("die 1;", 1);
        c.is("gone ones don't go", 8, () -> x.estate(0));
        workIs("die 3;", 1);
        c.is("the heir is dead", 0, () -> x.estate(0));
        c.is("it is dead", 0, () -> x.estate(3));
        c.is("no such", NO_SUCH, () -> x.estate(5));
        c.is("no such", NO_SUCH, () -> x.estate(-1));
        fresh(souls(3) + "grudge 0 1 9;grudge 2 1 9;heir 0 2;");
        workIs("forgive 1;", 1);
        c.is("the heir holds a forgiven one", 0, () -> x.estate(0));
    }

    // 32, 33
    private void mutualAndOnes() {
        fresh(souls(4) + "grudge 3 2 1;grudge 2 3 30;grudge 1 3 1;grudge 3 1 1;grudge 0 1 1;waits 1 0;");
        c.is("mutual", 2, () -> x.mutual(0));
        c.is("mutual", 13, () -> x.mutual(1));
        c.is("none can go through", 0, () -> x.ones(0));
        c.is("wait for nobody", 1 + 4 + 8, () -> x.ones(1));
        workIs("forgive 4;forgive 1;pass 2;", 3);
        c.is("can go through", 1 + 2 + 8, () -> x.ones(0));
        c.is("what was begun is not asked", 13, () -> x.ones(1));
        workIs("die 0;die 3;", 2);
        c.is("living ones", 2, () -> x.ones(0));
        c.is("waits for a dead one", 2 + 4, () -> x.ones(1));
        c.is("no pairs", 0, () -> x.mutual(0));
        c.is("no pairs", -1, () -> x.mutual(1));
        c.is("mutual 2", ILLEGAL, () -> x.mutual(2));
        c.is("mutual -1", ILLEGAL, () -> x.mutual(-1));
        c.is("ones 2", ILLEGAL, () -> x.ones(2));
        c.is("ones -1", ILLEGAL, () -> x.ones(-1));
    }

    // 34, 35
    private void yearAndSpan() {
        fresh("soul 1;soul 1;grudge 0 1 10;");
        // By one GRUDGE and Q 0: it is forgiven once, worth 2; both go through in so many days.
        c.is("forgiven", 1, () -> x.year(7, 0, 96, 0));
        c.is("went through", 2, () -> x.year(7, 0, 96, 1));
        c.is("swings", 0, () -> x.year(7, 0, 96, 2));
        c.is("week", 0, () -> x.year(7, 0, 96, 3));
        // Q 16: each day is a week: forgiven each day, one goes through each day.
        c.is("forgiven", 96, () -> x.year(-5, 16, 96, 0));
        c.is("went through", 96, () -> x.year(-5, 16, 96, 1));
        c.is("swings", 0, () -> x.year(-5, 16, 96, 2));
        c.is("week", 96, () -> x.year(-5, 16, 96, 3));
        // From SEED 0: 12,345 (0 of bits 16 to 30): week; then -740551042 and so on.
        c.is("one day", 1, () -> x.year(0, 0, 1, 2));
        toldIs(2, 0);
        toldIs(6, 0);
        c.is("fewest", 1, () -> x.span(3, 20, 0, 1, 0));
        c.is("most", 1, () -> x.span(3, 20, 0, 1, 1));
        c.is("with swings", 20, () -> x.span(3, 20, 0, 1, 2));
        c.is("with swings by weeks", 0, () -> x.span(3, 20, 16, 1, 2));
        c.is("seeds wrap", 5, () -> x.span(2147483646, 5, 0, 1, 2));
        draws();
        fresh("soul 1;");
        workIs("again 30[week;];", 30);
        c.is("without grudges", 30, () -> x.year(1, 16, 96, 3));
        c.is("without grudges", 0, () -> x.span(1, 20, 16, 96, 1));
        int[][] wrong = {{0, -1, 1, 0}, {0, 17, 1, 0}, {0, 0, 0, 0}, {0, 0, 97, 0}, {0, 0, 1, -1}, {0, 0, 1, 4}};
        for (int[] w : wrong) {
            c.is("year of a wrong one", ILLEGAL, () -> x.year(w[0], w[1], w[2], w[3]));
        }
        int[][] wrongSpans = {{0, 0, 0, 1, 0}, {0, 21, 0, 1, 0}, {0, 1, -1, 1, 0}, {0, 1, 17, 1, 0}, {0, 1, 0, 0, 0},
            {0, 1, 0, 97, 0}, {0, 1, 0, 1, -1}, {0, 1, 0, 1, 3}};
        for (int[] w : wrongSpans) {
            c.is("span of a wrong one", ILLEGAL, () -> x.span(w[0], w[1], w[2], w[3], w[4]));
        }
    }

    /** A WEEK beyond 400, and the DRAWS themselves: by SEED 1 they are 16838, 5758, 10113, 17515, 31051, 5627. */
    private void draws() {
        fresh("soul 1;soul 1;soul 1;grudge 0 1 10;grudge 1 0 1;grudge 2 0 30;");
        // Day 1: GRUDGE 16838 % 3 = 2 (worth 4), SOUL 5758 % 3 = 1, 10113 % 16 = 1.
        c.is("q 1: no week", 3, () -> x.year(1, 1, 1, 2));
        c.is("q 2: a week", 0, () -> x.year(1, 2, 1, 2));
        // Day 2: GRUDGE 17515 % 3 = 1 (worth 1), SOUL 31051 % 3 = 1: went through already; 5627 % 16 = 11.
        c.is("two days: swings", 4, () -> x.year(1, 0, 2, 2));
        c.is("two days: passings", 1, () -> x.year(1, 0, 2, 1));
        c.is("two days: weeks", 1, () -> x.year(1, 11, 2, 3));
        c.is("two days: weeks", 2, () -> x.year(1, 12, 2, 3));
        c.is("two days and weeks: passings", 2, () -> x.year(1, 12, 2, 1));
        for (int i = 0; i < 3; i++) {
            workIs("again 30[again 30[week;];];", i == 2 ? 400 - 2 * 192 : 192);
        }
        toldIs(2, 400);
        c.is("beyond 400", 496, () -> x.year(1, 16, 96, 3));
    }

    // 36, 37
    private void imageAndRestore() {
        fresh(souls(3) + "grudge 0 1 12;grudge 1 0 3;");
        c.is("no image", -1, () -> x.restore());
        workIs("lie 0;", 1);
        c.is("image", 1, () -> x.image());
        workIs("die 0;week;pass 1;", 2);
        c.is("a restore that does nothing, undo, told", 2, () -> x.image());
        c.is("image", 3, () -> x.image());
        c.is("too many", -1, () -> x.image());
        x.undo();
        x.undo();
        toldIs(3, 0);
        Checks.law(x, "9");
        Checks.book(x, "0 1;");
        c.is("restore", 2, () -> x.restore());
        toldIs(2, 1);
        toldIs(4, 6);
        toldIs(11, 0);
        c.is("works are back", 2, () -> x.count(2));
        c.is("and can be undone", 1, () -> x.undo());
        toldIs(6, 1);
        toldIs(8, 1);
        workIs("forgive 1;forgive 1;", 1);
        toldIs(11, 1);
        c.is("restore", 1, () -> x.restore());
        toldIs(11, 0);
        toldIs(2, 1);
        c.is("restore", 0, () -> x.restore());
        toldIs(2, 0);
        toldIs(6, 1);
        c.is("one work", 1, () -> x.count(2));
        c.is("undone", 0, () -> x.undo());
        c.is("the law is no part of it", 9, () -> x.grudge(0, 5));
        toldIs(10, 1);
        c.is("none", -1, () -> x.restore());
        // Sixteen WORKS come back with an IMAGE.
        for (int i = 0; i < 16; i++) {
            workIs("week;", 1);
        }
        x.image();
        for (int i = 0; i < 16; i++) {
            x.undo();
        }
        workIs("forgive 0;", 1);
        x.restore();
        workIs("week;", -20);
        toldIs(2, 16);
    }

    // 38, 39
    private void statusAndCount() {
        x = new LychGate();
        Checks.of(() -> x.soul(0, 9));
        Checks.of(() -> x.way(0, 0));
        Checks.of(() -> x.told(99));
        Checks.of(() -> x.parish(1));
        Checks.of(() -> x.order(-1));
        x.image();
        x.restore();
        c.is("no such", 2, () -> x.status(0));
        c.is("illegal", 3, () -> x.status(1));
        c.is("others", -1, () -> x.status(2));
        c.is("others", -1, () -> x.status(-1));
        Checks.parish(x, "soul 1;");
        c.is("a parish keeps it", 3, () -> x.status(1));
        x.image();
        Checks.of(() -> x.told(-1));
        x.restore();
        c.is("no image keeps it", 4, () -> x.status(1));
        x.image();
        Checks.feed(x, "week;");
        c.is("images", 1, () -> x.count(0));
        c.is("tape", 20, () -> x.count(1));
        x.work(5);
        c.is("tape", 0, () -> x.count(1));
        c.is("works", 1, () -> x.count(2));
        c.is("others", -1, () -> x.count(3));
        c.is("others", -1, () -> x.count(-1));
    }
}
