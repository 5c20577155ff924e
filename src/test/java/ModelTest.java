import java.util.Random;

/** Runs of calls by fixed seeds, on a LychGate and on the model: each answer of the one is the other one's. */
public final class ModelTest {
    private static final int RUNS = 2500;
    private static final int CALLS = 500;

    private final Checks checks = new Checks();
    private Random random = new Random(0);
    private LychGate gate = new LychGate();
    private Model model = new Model();
    private int run = 0;
    private int calls = 0;
    private int souls = 0;
    private int grudges = 0;

    public static void main(String[] args) {
        ModelTest test = new ModelTest();
        for (int run = 0; run < RUNS && test.checks.wrongOnes() == 0; run++) {
            test.runOne(run);
        }
        test.checks.end();
    }

    private void runOne(int number) {
        run = number;
        random = new Random(number);
        gate = new LychGate();
        model = new Model();
        calls = 0;
        tellParish();
        while (calls < CALLS) {
            int kind = below(100);
            if (kind < 2) {
                tellParish();
            } else if (kind < 6) {
                tell("law", lawText(), 150);
            } else if (kind < 18) {
                tell("work", workText(), 150);
            } else if (kind < 22) {
                tell("book", bookText(), 60);
            } else {
                ask(below(36));
            }
        }
    }

    private int below(int n) {
        return random.nextInt(n);
    }

    /** A number for a bound: mostly inside of it. */
    private int near(int low, int high) {
        int kind = below(40);
        if (kind == 0) {
            return low - 1;
        }
        if (kind == 1) {
            return high + 1;
        }
        if (kind == 2) {
            return random.nextInt();
        }
        return high < low ? low : low + below(high - low + 1);
    }

    private void same(String what, Checks.Call ofModel, Checks.Call ofGate) {
        calls++;
        checks.same("run " + run + " call " + calls + ": " + what, Checks.of(ofModel), Checks.of(ofGate));
    }

    // ---- texts ----

    private void tellParish() {
        tell("parish", parishText(), 600);
    }

    private void tell(String kind, String plain, int most) {
        String text = below(5) == 0 ? spoiled(plain) : plain;
        text = text.length() > most ? text.substring(0, most) : text;
        byte[] bytes = Checks.bytes(text);
        for (int from = 0; from < bytes.length; from += 20) {
            int[] five = Checks.five(bytes, from);
            same("feed", () -> model.feed(five[0], five[1], five[2], five[3], five[4]),
                    () -> gate.feed(five[0], five[1], five[2], five[3], five[4]));
        }
        int n = below(25) == 0 ? near(0, 620) : text.length();
        String what = kind + " '" + text + "' " + n;
        switch (kind) {
            case "parish": same(what, () -> model.parish(n), () -> gate.parish(n)); break;
            case "law": same(what, () -> model.law(n), () -> gate.law(n)); break;
            case "work": same(what, () -> model.work(n), () -> gate.work(n)); break;
            default: same(what, () -> model.book(n), () -> gate.book(n)); break;
        }
        same(what + " fault", () -> model.fault(), () -> gate.fault());
        same(what + " souls", () -> model.told(0), () -> gate.told(0));
        souls = model.told(0);
        grudges = model.told(1);
        same(what + " count", () -> model.count(1), () -> gate.count(1));
        for (int i = 1; i <= 11; i++) {
            int k = i;
            same(what + " told " + k, () -> model.told(k), () -> gate.told(k));
        }
    }

    private String spoiled(String text) {
        StringBuilder b = new StringBuilder(text);
        for (int i = below(2); i >= 0; i--) {
            int at = below(b.length() + 1);
            int kind = below(4);
            if (kind == 0 && at < b.length()) {
                b.deleteCharAt(at);
            } else if (kind == 1) {
                b.setLength(at);
            } else {
                String signs = "0123456789;[](),+-*/% aklosuXZ";
                b.insert(at, below(12) == 0 ? (char) below(256) : signs.charAt(below(signs.length())));
            }
        }
        return b.toString();
    }

    private String gap() {
        return below(12) == 0 ? "  " : " ";
    }

    private String maybe() {
        return below(12) == 0 ? " " : "";
    }

    private String number(int low, int high) {
        return (below(30) == 0 ? "0" : "") + (below(90) == 0 ? near(low, high) & 0xffff : low + below(Math.max(1, high - low + 1)));
    }

    private String parishText() {
        int many = below(6) == 0 ? below(10) : 2 + below(6);
        StringBuilder b = new StringBuilder();
        for (int i = 0; i < many; i++) {
            b.append(maybe()).append("soul").append(gap()).append(number(1, 9)).append(maybe()).append(";");
        }
        boolean[][] held = new boolean[10][10];
        int clauses = below(10) == 0 ? 60 : below(30);
        for (int i = 0; i < clauses && b.length() < 580; i++) {
            int x = below(Math.max(many, 1));
            int y = below(Math.max(many, 1));
            boolean right = x != y && !held[x][y];
            if (!right && below(30) != 0) {
                continue;
            }
            int kind = below(10);
            b.append(maybe());
            if (kind < 6) {
                b.append("grudge ").append(x).append(gap()).append(y).append(gap()).append(number(1, 30));
                held[x][y] = true;
            } else {
                b.append(kind < 8 ? "waits " : "heir ").append(x).append(gap()).append(y);
            }
            b.append(maybe()).append(";");
        }
        return b.append(maybe()).toString();
    }

    private String lawText() {
        for (int i = 0; i < 20; i++) {
            String text = sum(below(12) == 0 ? 9 : below(5)) + maybe();
            if (text.length() <= 150) {
                return text;
            }
        }
        return "sum";
    }

    private String sum(int depth) {
        StringBuilder b = new StringBuilder(product(depth));
        for (int i = below(3); i > 0; i--) {
            b.append(maybe()).append(below(2) == 0 ? "+" : "-").append(product(depth));
        }
        return b.toString();
    }

    private String product(int depth) {
        StringBuilder b = new StringBuilder(unit(depth));
        for (int i = below(5) - 2; i > 0; i--) {
            b.append(maybe()).append("*/%".charAt(below(3))).append(unit(depth));
        }
        return b.toString();
    }

    private String unit(int depth) {
        String[] facts = {"sum", "pride", "times", "owed", "others", "week", "soul"};
        int kind = depth <= 0 ? below(6) : depth > 6 ? 6 + below(3) : below(9);
        if (kind < 3) {
            return maybe() + (below(3) == 0 ? number(0, 999) : number(0, 12));
        }
        if (kind < 6) {
            return maybe() + facts[below(facts.length)];
        }
        if (kind == 6) {
            return maybe() + "(" + sum(depth - 1) + maybe() + ")";
        }
        return (kind == 7 ? "least" : "most") + maybe() + "[" + sum(depth - 1) + "," + sum(depth > 6 ? 0 : depth - 1) + "]";
    }

    private String workText() {
        for (int i = 0; i < 20; i++) {
            String text = steps(below(10) == 0 ? 8 : 2, 1 + below(10)) + maybe();
            if (text.length() <= 150) {
                return text;
            }
        }
        return "week;";
    }

    private String steps(int depth, int many) {
        StringBuilder b = new StringBuilder();
        for (int i = 0; i < many; i++) {
            b.append(maybe()).append(step(depth)).append(";");
        }
        return b.toString();
    }

    private String step(int depth) {
        int kind = below(20);
        if (kind < 6) {
            return "forgive" + gap() + number(0, grudges - 1);
        }
        if (kind < 9) {
            return "lie " + number(0, grudges - 1) + maybe();
        }
        if (kind < 11) {
            return "drink " + number(0, souls - 1) + gap() + number(0, souls - 1);
        }
        if (kind < 14) {
            return "begin " + number(0, souls - 1) + " " + number(0, souls - 1) + " " + number(0, souls - 1);
        }
        if (kind < 17) {
            return "pass " + number(0, souls - 1);
        }
        if (kind == 17) {
            return below(3) == 0 ? "die " + number(0, souls - 1) : "week";
        }
        if (kind == 18 || depth <= 0) {
            return "week" + maybe();
        }
        return "again" + maybe() + number(0, 30) + maybe() + "[" + steps(depth - 1, below(4)) + maybe() + "]" + maybe();
    }

    private String bookText() {
        StringBuilder b = new StringBuilder();
        for (int i = 0; i < souls; i++) {
            if (below(3) == 0) {
                b.append(maybe()).append(i).append(gap()).append(below(4) == 0 ? number(0, 8) : number(0, 2)).append(maybe()).append(";");
            }
        }
        if (below(20) == 0) {
            b.append(number(0, souls - 1)).append(" 1;");
        }
        return b.append(maybe()).toString();
    }

    // ---- questions ----

    private void ask(int kind) {
        int s = near(0, souls - 1);
        int t = near(0, souls - 1);
        int g = near(0, grudges - 1);
        if (kind < 18) {
            askFirst(kind, s, t, g);
        } else {
            askSecond(kind, s);
        }
    }

    private void askFirst(int kind, int s, int t, int g) {
        switch (kind) {
            case 0: same("undo", () -> model.undo(), () -> gate.undo()); break;
            case 1: each("told", 11, k -> model.told(k), k -> gate.told(k)); break;
            case 2: each("soul " + s, 6, k -> model.soul(s, k), k -> gate.soul(s, k)); break;
            case 3: each("grudge " + g, 5, k -> model.grudge(g, k), k -> gate.grudge(g, k)); break;
            case 4: askWould(); break;
            case 5: same("can " + g, () -> model.can(g) ? 1 : 0, () -> gate.can(g) ? 1 : 0); break;
            case 6: {
                int n = below(2) == 0 ? near(0, 99) : near(0, 20);
                each("least " + n, 1, k -> model.least(n, k), k -> gate.least(n, k));
                break;
            }
            case 7: each("order", 8, k -> model.order(k), k -> gate.order(k)); break;
            case 8: same("stuck", () -> model.stuck(), () -> gate.stuck()); break;
            case 9: case 10: each("lied", 2, k -> model.lied(k), k -> gate.lied(k)); break;
            case 11: case 12: each("ask", 1, k -> model.ask(k), k -> gate.ask(k)); break;
            case 13: same("way " + s + " " + t, () -> model.way(s, t), () -> gate.way(s, t)); break;
            case 14: same("rings", () -> model.rings(), () -> gate.rings()); break;
            case 15: same("even", () -> model.even(), () -> gate.even()); break;
            case 16: same("net " + s, () -> model.net(s), () -> gate.net(s)); break;
            default: {
                int n = near(0, 12);
                int q = near(0, 16);
                each("odds " + n + " " + q, 1, k -> model.odds(n, q, k), k -> gate.odds(n, q, k));
                break;
            }
        }
    }

    private void askSecond(int kind, int s) {
        int seed = random.nextInt();
        int q = near(0, 16);
        int days = near(1, 96);
        switch (kind) {
            case 18: {
                int v = near(0, 99);
                int w = below(4) == 0 ? v : near(0, 99);
                each("steps " + v + " " + w, 2, k -> model.steps(v, w, k), k -> gate.steps(v, w, k));
                break;
            }
            case 19: {
                int among = near(0, (1 << souls) - 1);
                int n = below(2) == 0 ? near(0, 99) : near(0, 30);
                same("bread " + s + " " + among + " " + n, () -> model.bread(s, among, n), () -> gate.bread(s, among, n));
                break;
            }
            case 20: each("worst", 1, k -> model.worst(k), k -> gate.worst(k)); break;
            case 21: same("free", () -> model.free(), () -> gate.free()); break;
            case 22: each("ready", 1, k -> model.ready(k), k -> gate.ready(k)); break;
            case 23: same("more " + s, () -> model.more(s), () -> gate.more(s)); break;
            case 24: each("proudest", 1, k -> model.proudest(k), k -> gate.proudest(k)); break;
            case 25: same("estate " + s, () -> model.estate(s), () -> gate.estate(s)); break;
            case 26: each("mutual", 1, k -> model.mutual(k), k -> gate.mutual(k)); break;
            case 27: each("ones", 1, k -> model.ones(k), k -> gate.ones(k)); break;
            case 28: each("year " + seed + " " + q + " " + days, 3, k -> model.year(seed, q, days, k), k -> gate.year(seed, q, days, k)); break;
            case 29: {
                int many = near(1, 20);
                each("span " + seed + " " + many + " " + q + " " + days, 2,
                        k -> model.span(seed, many, q, days, k), k -> gate.span(seed, many, q, days, k));
                break;
            }
            case 30: same("image", () -> model.image(), () -> gate.image()); break;
            case 31: same("restore", () -> model.restore(), () -> gate.restore()); break;
            case 32: each("status", 1, k -> model.status(k), k -> gate.status(k)); break;
            case 33: each("count", 2, k -> model.count(k), k -> gate.count(k)); break;
            case 34: same("fault", () -> model.fault(), () -> gate.fault()); break;
            default: same("undo", () -> model.undo(), () -> gate.undo()); break;
        }
    }

    private interface Asked {
        long answer(int k);
    }

    private void each(String what, int last, Asked ofModel, Asked ofGate) {
        int k = near(0, last);
        same(what + " " + k, () -> ofModel.answer(k), () -> ofGate.answer(k));
    }

    private void askWould() {
        int[] x = {near(0, 30), near(1, 9), near(0, 999), near(0, 30), near(0, 7), near(0, 400), near(0, 7)};
        same("would", () -> model.would(x[0], x[1], x[2], x[3], x[4], x[5], x[6]),
                () -> gate.would(x[0], x[1], x[2], x[3], x[4], x[5], x[6]));
    }
}
