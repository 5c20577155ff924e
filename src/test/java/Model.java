import java.math.BigInteger;
import java.util.ArrayList;
import java.util.Arrays;
import java.util.List;
import java.util.NoSuchElementException;

/**
 * A second LychGate for the tests, written from the document alone in the slowest and plainest way (all sets,
 * all rows, all splits), so that a slip in the one is no slip in the other.
 */
final class Model {
    static final int NONE = -1;

    static final class Fault extends RuntimeException {
        final int kind;
        final int place;

        Fault(int kind, int place) {
            this.kind = kind;
            this.place = place;
        }
    }

    static final class Token {
        final char type;
        final String text;
        final int place;

        Token(char type, String text, int place) {
            this.type = type;
            this.text = text;
            this.place = place;
        }
    }

    static final class Grudge implements Cloneable {
        int a;
        int b;
        int sum;
        int times;
        boolean gone;
        boolean forgiven;

        Grudge copy() {
            try {
                return (Grudge) clone();
            } catch (CloneNotSupportedException e) {
                throw new AssertionError(e);
            }
        }
    }

    /** All that WORK changes. */
    static final class World {
        int week;
        int swings;
        boolean[] dead = new boolean[8];
        boolean[] begun = new boolean[8];
        boolean[] lied = new boolean[8];
        boolean[] through = new boolean[8];
        boolean[][] seen = new boolean[8][8];
        int[] forgave = new int[8];
        List<Grudge> grudges = new ArrayList<>();

        World copy() {
            World w = new World();
            w.week = week;
            w.swings = swings;
            w.dead = dead.clone();
            w.begun = begun.clone();
            w.lied = lied.clone();
            w.through = through.clone();
            for (int i = 0; i < 8; i++) {
                w.seen[i] = seen[i].clone();
            }
            w.forgave = forgave.clone();
            for (Grudge g : grudges) {
                w.grudges.add(g.copy());
            }
            return w;
        }
    }

    interface Expr {
        int value(int[] facts);
    }

    private String tape = "";
    private int fault = NONE;
    private int souls = 0;
    private int[] pride = new int[8];
    private boolean[][] waits = new boolean[8][8];
    private int[] heir = new int[8];
    private Expr law = null;
    private int[] book = noBook();
    private World now = new World();
    private List<World> undos = new ArrayList<>();
    private final List<List<World>> images = new ArrayList<>();
    private int refusedSteps = 0;
    private int noSuch = 0;
    private int illegal = 0;

    private static int[] noBook() {
        int[] book = new int[8];
        Arrays.fill(book, NONE);
        return book;
    }

    private void must(boolean right) {
        if (!right) {
            illegal++;
            throw new IllegalArgumentException();
        }
    }

    private void mustSoul(int soul) {
        if (soul < 0 || soul >= souls) {
            noSuch++;
            throw new NoSuchElementException();
        }
    }

    private void mustGrudge(int grudge) {
        if (grudge < 0 || grudge >= now.grudges.size()) {
            noSuch++;
            throw new NoSuchElementException();
        }
    }

    // ---- texts ----

    private List<Token> tokens = new ArrayList<>();
    private int next = 0;

    private static List<Token> split(String text) {
        List<Token> list = new ArrayList<>();
        int i = 0;
        while (i < text.length()) {
            char c = text.charAt(i);
            int j = i + 1;
            if (c == ' ') {
                i++;
                continue;
            }
            if (c >= '0' && c <= '9') {
                while (j < text.length() && text.charAt(j) >= '0' && text.charAt(j) <= '9') {
                    j++;
                }
                list.add(new Token('n', text.substring(i, j), i));
            } else if (c >= 'a' && c <= 'z') {
                while (j < text.length() && text.charAt(j) >= 'a' && text.charAt(j) <= 'z') {
                    j++;
                }
                list.add(new Token('w', text.substring(i, j), i));
            } else {
                list.add(new Token('s', text.substring(i, j), i));
            }
            i = j;
        }
        list.add(new Token('e', "", text.length()));
        return list;
    }

    private Token peek() {
        return tokens.get(next);
    }

    private Token take(char type) {
        Token t = peek();
        if (t.type != type) {
            throw new Fault(1, t.place);
        }
        next++;
        return t;
    }

    private void sign(String s) {
        if (!peek().text.equals(s)) {
            throw new Fault(1, peek().place);
        }
        next++;
    }

    private int number(int low, int high) {
        Token t = take('n');
        BigInteger value = new BigInteger(t.text);
        boolean fits = value.compareTo(BigInteger.valueOf(low)) >= 0 && value.compareTo(BigInteger.valueOf(high)) <= 0;
        if (!fits) {
            throw new Fault(2, t.place);
        }
        return value.intValue();
    }

    private String begin(int n, int most) {
        must(n >= 0 && n <= tape.length() && n <= most);
        String text = tape.substring(0, n);
        tape = "";
        fault = NONE;
        tokens = split(text);
        next = 0;
        return text;
    }

    private int failed(Fault f) {
        fault = f.place;
        return f.kind - 10;
    }

    int feed(int a, int b, int c, int d, int e) {
        if (tape.length() > 580) {
            return NONE;
        }
        for (int x : new int[] {a, b, c, d, e}) {
            tape += "" + (char) (x >>> 24) + (char) (x >>> 16 & 255) + (char) (x >>> 8 & 255) + (char) (x & 255);
        }
        return tape.length();
    }

    int parish(int n) {
        begin(n, 600);
        int[] newPride = new int[8];
        int[] newHeir = noBook();
        boolean[][] newWaits = new boolean[8][8];
        List<Grudge> grudges = new ArrayList<>();
        int many = 0;
        try {
            for (int clauses = 0; peek().type != 'e'; clauses++) {
                Token t = take('w');
                if (!List.of("soul", "grudge", "waits", "heir").contains(t.text)) {
                    throw new Fault(1, t.place);
                }
                boolean full = t.text.equals("soul") && many == 8 || t.text.equals("grudge") && grudges.size() == 14;
                if (clauses == 60 || full) {
                    throw new Fault(3, t.place);
                }
                if (t.text.equals("soul")) {
                    newPride[many] = number(1, 9);
                    many++;
                } else {
                    int a = number(0, many - 1);
                    int place = peek().place;
                    int b = number(0, many - 1);
                    if (a == b) {
                        throw new Fault(2, place);
                    }
                    if (t.text.equals("grudge")) {
                        for (Grudge g : grudges) {
                            if (g.a == a && g.b == b) {
                                throw new Fault(2, place);
                            }
                        }
                        Grudge g = new Grudge();
                        g.a = a;
                        g.b = b;
                        g.sum = number(1, 30);
                        grudges.add(g);
                    } else if (t.text.equals("waits")) {
                        newWaits[a][b] = true;
                    } else {
                        newHeir[a] = b;
                    }
                }
                sign(";");
            }
        } catch (Fault f) {
            return failed(f);
        }
        souls = many;
        pride = newPride;
        heir = newHeir;
        waits = newWaits;
        law = null;
        book = noBook();
        now = new World();
        now.grudges = grudges;
        undos = new ArrayList<>();
        images.clear();
        refusedSteps = 0;
        return grudges.size();
    }

    int law(int n) {
        begin(n, 150);
        try {
            Expr e = sum(0);
            if (peek().type != 'e') {
                throw new Fault(1, peek().place);
            }
            law = e;
            return 1;
        } catch (Fault f) {
            return failed(f);
        }
    }

    private Expr sum(int open) {
        Expr left = product(open);
        while (peek().text.equals("+") || peek().text.equals("-")) {
            boolean plus = tokens.get(next++).text.equals("+");
            Expr l = left;
            Expr r = product(open);
            left = f -> plus ? l.value(f) + r.value(f) : l.value(f) - r.value(f);
        }
        return left;
    }

    private Expr product(int open) {
        Expr left = unit(open);
        while (List.of("*", "/", "%").contains(peek().text)) {
            char op = tokens.get(next++).text.charAt(0);
            Expr l = left;
            Expr r = unit(open);
            left = f -> {
                int x = l.value(f);
                int y = r.value(f);
                return op == '*' ? x * y : y == 0 ? 0 : op == '/' ? x / y : x % y;
            };
        }
        return left;
    }

    private Expr unit(int open) {
        Token t = peek();
        if (t.type == 'n') {
            int value = number(0, 999);
            return f -> value;
        }
        if (List.of("(", "least", "most").contains(t.text)) {
            if (open == 6) {
                throw new Fault(3, t.place);
            }
            next++;
            if (t.text.equals("(")) {
                Expr e = sum(open + 1);
                sign(")");
                return e;
            }
            sign("[");
            Expr x = sum(open + 1);
            sign(",");
            Expr y = sum(open + 1);
            sign("]");
            boolean least = t.text.equals("least");
            return f -> least == (x.value(f) < y.value(f)) ? x.value(f) : y.value(f);
        }
        int fact = List.of("sum", "pride", "times", "owed", "others", "week", "soul").indexOf(t.text);
        if (fact < 0) {
            throw new Fault(1, t.place);
        }
        next++;
        return f -> f[fact];
    }

    static final class Step {
        String kind;
        int[] with = new int[3];
        List<Step> inside;
    }

    private int begunSteps;
    private int doneSteps;
    private int refusedNow;

    int work(int n) {
        begin(n, 150);
        if (undos.size() == 16) {
            return -20;
        }
        List<Step> all;
        try {
            all = readSteps(0);
        } catch (Fault f) {
            return failed(f);
        }
        undos.add(now.copy());
        begunSteps = 0;
        doneSteps = 0;
        refusedNow = 0;
        perform(all);
        refusedSteps = refusedNow;
        return doneSteps;
    }

    private List<Step> readSteps(int open) {
        List<Step> list = new ArrayList<>();
        while (open == 0 ? peek().type != 'e' : !peek().text.equals("]")) {
            Token t = take('w');
            Step s = new Step();
            s.kind = t.text;
            switch (t.text) {
                case "forgive": case "lie": s.with[0] = number(0, now.grudges.size() - 1); break;
                case "begin": readSouls(s, 3); break;
                case "drink": readSouls(s, 2); break;
                case "pass": case "die": readSouls(s, 1); break;
                case "week": break;
                case "again":
                    if (open == 6) {
                        throw new Fault(3, t.place);
                    }
                    s.with[0] = number(0, 30);
                    sign("[");
                    s.inside = readSteps(open + 1);
                    sign("]");
                    break;
                default: throw new Fault(1, t.place);
            }
            sign(";");
            list.add(s);
        }
        return list;
    }

    private void readSouls(Step s, int many) {
        for (int i = 0; i < many; i++) {
            s.with[i] = number(0, souls - 1);
        }
    }

    private void perform(List<Step> list) {
        for (Step s : list) {
            if (begunSteps == 200) {
                return;
            }
            begunSteps++;
            if (s.kind.equals("again")) {
                for (int i = 0; i < s.with[0]; i++) {
                    perform(s.inside);
                }
            } else if (step(s)) {
                doneSteps++;
            } else {
                refusedNow++;
            }
        }
    }

    private boolean step(Step s) {
        int a = s.with[0];
        int b = s.with[1];
        int t = s.with[2];
        switch (s.kind) {
            case "forgive": return forgive(now, a, false);
            case "lie": return forgive(now, a, true);
            case "drink": return drink(a, b);
            case "begin":
                if (a == b || b == t || a == t || now.dead[a] || now.dead[b] || now.dead[t]) {
                    return false;
                }
                if (!waits[a][b] || !waits[b][a] || now.seen[a][b]) {
                    return false;
                }
                now.seen[a][b] = true;
                now.seen[b][a] = true;
                now.lied[t] = true;
                return true;
            case "pass": return pass(now, a);
            case "die": return die(a);
            default:
                if (now.week >= 400) {
                    return false;
                }
                newWeek(now);
                return true;
        }
    }

    private boolean forgive(World w, int g, boolean lie) {
        if (!canForgive(w, g)) {
            return false;
        }
        Grudge x = w.grudges.get(g);
        w.swings += worth(w, x);
        x.forgiven = true;
        x.times++;
        w.forgave[x.a]++;
        w.begun[x.a] = true;
        if (lie) {
            w.lied[x.a] = true;
        }
        return true;
    }

    private boolean canBegin(World w, int a) {
        if (w.dead[a]) {
            return false;
        }
        for (int b = 0; b < souls; b++) {
            if (waits[a][b] && !w.dead[b] && !w.begun[b] && !w.seen[a][b]) {
                return false;
            }
        }
        return true;
    }

    private boolean canForgive(World w, int g) {
        Grudge x = w.grudges.get(g);
        return !x.gone && !x.forgiven && canBegin(w, x.a);
    }

    private int worth(World w, Grudge x) {
        if (x.gone) {
            return 0;
        }
        int owed = 0;
        int others = 0;
        for (Grudge y : w.grudges) {
            if (!y.gone && y.a == x.b && y.b == x.a) {
                owed = y.sum;
            }
            if (!y.gone && y.b == x.b && y.a != x.a) {
                others++;
            }
        }
        return worth(new int[] {x.sum, pride[x.a], x.times, owed, others, w.week, x.a});
    }

    private int worth(int[] facts) {
        int value = law == null ? 1 + facts[0] / 10 : law.value(facts);
        return value < 0 ? 0 : value > 20 ? 20 : value;
    }

    private boolean drink(int a, int b) {
        boolean any = false;
        if (a == b || now.dead[a] || now.dead[b]) {
            return false;
        }
        for (Grudge x : now.grudges) {
            boolean between = x.a == a && x.b == b || x.a == b && x.b == a;
            if (!x.gone && between && x.forgiven) {
                x.forgiven = false;
                any = true;
            }
        }
        return any;
    }

    private boolean pass(World w, int a) {
        if (w.dead[a] || w.through[a] || w.swings == 0) {
            return false;
        }
        w.through[a] = true;
        w.swings--;
        return true;
    }

    private boolean die(int a) {
        if (now.dead[a]) {
            return false;
        }
        now.dead[a] = true;
        for (Grudge x : now.grudges) {
            if (x.b == a) {
                x.gone = true;
                x.forgiven = false;
            }
        }
        for (Grudge x : now.grudges) {
            if (x.gone || x.a != a) {
                continue;
            }
            x.forgiven = false;
            int h = heir[a];
            boolean goes = h != NONE && !now.dead[h] && h != x.b && x.sum / 2 > 0;
            for (Grudge y : now.grudges) {
                goes &= y.gone || y.a != h || y.b != x.b;
            }
            if (goes) {
                x.a = h;
                x.sum /= 2;
                x.times = 0;
            } else {
                x.gone = true;
            }
        }
        return true;
    }

    private static void newWeek(World w) {
        w.week++;
        w.swings = 0;
        w.begun = new boolean[8];
        w.lied = new boolean[8];
        w.through = new boolean[8];
        w.seen = new boolean[8][8];
        for (Grudge x : w.grudges) {
            x.forgiven = false;
        }
    }

    int book(int n) {
        begin(n, 60);
        int[] lines = noBook();
        int many = 0;
        try {
            while (peek().type != 'e') {
                int place = peek().place;
                int b = number(0, souls - 1);
                if (lines[b] != NONE) {
                    throw new Fault(2, place);
                }
                lines[b] = number(0, 8);
                sign(";");
                many++;
            }
        } catch (Fault f) {
            return failed(f);
        }
        book = lines;
        return many;
    }

    int fault() {
        return fault;
    }

    int undo() {
        if (undos.isEmpty()) {
            return -1;
        }
        now = undos.remove(undos.size() - 1);
        refusedSteps = 0;
        return undos.size();
    }

    // ---- questions ----

    private static int bits(boolean[] row) {
        int bits = 0;
        for (int i = 0; i < row.length; i++) {
            bits += row[i] ? 1 << i : 0;
        }
        return bits;
    }

    private boolean[] living() {
        boolean[] row = new boolean[souls];
        for (int i = 0; i < souls; i++) {
            row[i] = !now.dead[i];
        }
        return row;
    }

    int told(int what) {
        must(what >= 0 && what <= 11);
        int there = 0;
        int forgiven = 0;
        for (int g = 0; g < now.grudges.size(); g++) {
            there += now.grudges.get(g).gone ? 0 : 1 << g;
            forgiven += now.grudges.get(g).forgiven ? 1 << g : 0;
        }
        int lines = 0;
        for (int n : book) {
            lines += n == NONE ? 0 : 1;
        }
        return new int[] {souls, now.grudges.size(), now.week, now.swings, bits(living()), there, forgiven,
            bits(now.begun), bits(now.lied), bits(now.through), lines, refusedSteps}[what];
    }

    private int held(int by, int against, boolean sums) {
        int all = 0;
        for (Grudge x : now.grudges) {
            if (!x.gone && (by == NONE || x.a == by) && (against == NONE || x.b == against)) {
                all += sums ? x.sum : 1;
            }
        }
        return all;
    }

    int soul(int soul, int what) {
        mustSoul(soul);
        must(what >= 0 && what <= 6);
        return new int[] {pride[soul], canBegin(now, soul) ? 1 : 0, bits(waits[soul]), heir[soul],
            held(soul, NONE, true), held(NONE, soul, true), now.forgave[soul]}[what];
    }

    int grudge(int grudge, int what) {
        mustGrudge(grudge);
        must(what >= 0 && what <= 5);
        Grudge x = now.grudges.get(grudge);
        return new int[] {x.a, x.b, x.gone ? 0 : x.sum, x.forgiven ? 1 : 0, x.times, worth(now, x)}[what];
    }

    int would(int sum, int pride, int times, int owed, int others, int week, int soul) {
        must(sum >= 0 && sum <= 30 && pride >= 1 && pride <= 9 && times >= 0 && times <= 999 && owed >= 0
            && owed <= 30 && others >= 0 && others <= 7 && week >= 0 && week <= 400 && soul >= 0 && soul <= 7);
        return worth(new int[] {sum, pride, times, owed, others, week, soul});
    }

    boolean can(int grudge) {
        mustGrudge(grudge);
        return canForgive(now, grudge);
    }

    int least(int n, int what) {
        must(n >= 0 && n <= 99 && what >= 0 && what <= 1);
        int bestPride = NONE;
        int bestSet = NONE;
        int size = now.grudges.size();
        int[] worths = new int[size];
        boolean[] may = new boolean[size];
        for (int g = 0; g < size; g++) {
            may[g] = canForgive(now, g);
            worths[g] = worth(now, now.grudges.get(g));
        }
        for (int set = 0; set < 1 << size; set++) {
            int sum = now.swings;
            int prides = 0;
            boolean right = true;
            for (int g = 0; g < size; g++) {
                if ((set >> g & 1) == 1) {
                    right &= may[g];
                    sum += worths[g];
                    prides += pride[now.grudges.get(g).a];
                }
            }
            if (right && sum >= n && (bestSet == NONE || prides < bestPride)) {
                bestPride = prides;
                bestSet = set;
            }
        }
        return what == 0 ? bestPride : bestSet;
    }

    private boolean firstRow(List<Integer> row, int many) {
        if (row.size() == many) {
            return true;
        }
        for (int s = 0; s < souls; s++) {
            if (now.dead[s] || row.contains(s)) {
                continue;
            }
            boolean right = true;
            for (int b = 0; b < souls; b++) {
                right &= !waits[s][b] || now.dead[b] || row.contains(b);
            }
            if (right) {
                row.add(s);
                if (firstRow(row, many)) {
                    return true;
                }
                row.remove(row.size() - 1);
            }
        }
        return false;
    }

    int order(int k) {
        must(k >= 0);
        List<Integer> row = new ArrayList<>();
        int many = Integer.bitCount(bits(living()));
        if (stuck() != 0 || !firstRow(row, many) || k >= row.size()) {
            return NONE;
        }
        return row.get(k);
    }

    int stuck() {
        boolean[][] reach = new boolean[8][8];
        for (int a = 0; a < souls; a++) {
            for (int b = 0; b < souls; b++) {
                reach[a][b] = waits[a][b] && !now.dead[a] && !now.dead[b];
            }
        }
        close(reach);
        int bits = 0;
        for (int a = 0; a < souls; a++) {
            boolean stuck = reach[a][a];
            for (int b = 0; b < souls; b++) {
                stuck |= reach[a][b] && reach[b][b];
            }
            bits += stuck ? 1 << a : 0;
        }
        return bits;
    }

    private static void close(boolean[][] reach) {
        for (int k = 0; k < 8; k++) {
            for (int i = 0; i < 8; i++) {
                for (int j = 0; j < 8; j++) {
                    reach[i][j] |= reach[i][k] && reach[k][j];
                }
            }
        }
    }

    private int liarsTo(int set, int b) {
        int many = 0;
        for (int a = 0; a < souls; a++) {
            for (Grudge x : now.grudges) {
                many += (set >> a & 1) == 1 && !x.gone && x.a == a && x.b == b && x.forgiven ? 1 : 0;
            }
        }
        return many;
    }

    private List<Integer> liarSets() {
        List<Integer> sets = new ArrayList<>();
        for (int set = 0; set < 1 << souls; set++) {
            boolean right = (set & ~bits(living())) == 0;
            for (int b = 0; b < souls; b++) {
                right &= book[b] == NONE || liarsTo(set, b) == book[b];
            }
            if (right) {
                sets.add(set);
            }
        }
        return sets;
    }

    int lied(int what) {
        must(what >= 0 && what <= 2);
        List<Integer> sets = liarSets();
        int sure = sets.isEmpty() ? 0 : 255;
        for (int set : sets) {
            sure &= set;
        }
        return new int[] {sets.size(), sets.isEmpty() ? NONE : sets.get(0), sure}[what];
    }

    int ask(int what) {
        must(what >= 0 && what <= 1);
        List<Integer> sets = liarSets();
        int best = NONE;
        int fewest = NONE;
        for (int s = 0; s < souls; s++) {
            if (book[s] != NONE) {
                continue;
            }
            int worst = 0;
            for (int n = 0; n <= 8; n++) {
                int left = 0;
                for (int set : sets) {
                    left += liarsTo(set, s) == n ? 1 : 0;
                }
                worst = Math.max(worst, left);
            }
            if (best == NONE || worst < fewest) {
                best = s;
                fewest = worst;
            }
        }
        return what == 0 ? best : fewest;
    }

    int way(int soul, int other) {
        mustSoul(soul);
        mustSoul(other);
        int[] far = new int[8];
        Arrays.fill(far, 1000);
        far[soul] = 0;
        for (int i = 0; i < 10; i++) {
            for (Grudge x : now.grudges) {
                if (!x.gone) {
                    far[x.b] = Math.min(far[x.b], far[x.a] + 1);
                }
            }
        }
        return far[other] >= 1000 ? NONE : far[other];
    }

    int rings() {
        boolean[][] reach = new boolean[8][8];
        for (Grudge x : now.grudges) {
            reach[x.a][x.b] |= !x.gone;
        }
        close(reach);
        int bits = 0;
        for (int a = 0; a < souls; a++) {
            bits += reach[a][a] ? 1 << a : 0;
        }
        return bits;
    }

    /** Settles one whole debt at a time, in all ways. */
    private static int settle(int[] nets, int from) {
        int i = from;
        while (i < nets.length && nets[i] == 0) {
            i++;
        }
        if (i == nets.length) {
            return 0;
        }
        int best = 100;
        for (int j = i + 1; j < nets.length; j++) {
            if (Integer.signum(nets[j]) == -Integer.signum(nets[i])) {
                int was = nets[j];
                nets[j] += nets[i];
                best = Math.min(best, 1 + settle(nets, i + 1));
                nets[j] = was;
            }
        }
        return best;
    }

    int even() {
        int[] nets = new int[souls];
        for (int a = 0; a < souls; a++) {
            nets[a] = held(a, NONE, true) - held(NONE, a, true);
        }
        return settle(nets, 0);
    }

    int net(int soul) {
        mustSoul(soul);
        return held(soul, NONE, true) - held(NONE, soul, true);
    }

    long odds(int n, int q, int part) {
        must(n >= 0 && n <= 12 && q >= 0 && q <= 16 && part >= 0 && part <= 1);
        BigInteger above = BigInteger.ZERO;
        for (int set = 0; set < 1 << n; set++) {
            int yes = Integer.bitCount(set);
            if (yes % 2 == 0) {
                above = above.add(BigInteger.valueOf(q).pow(yes).multiply(BigInteger.valueOf(16 - q).pow(n - yes)));
            }
        }
        BigInteger below = BigInteger.valueOf(16).pow(n);
        BigInteger common = above.gcd(below);
        return (part == 0 ? above : below).divide(common).longValueExact();
    }

    int steps(int v, int w, int what) {
        must(v >= 0 && v <= 99 && w >= 0 && w <= 99 && what >= 0 && what <= 2);
        int[][] has = {{v, -w}, {w, 0}};
        int many = 0;
        int first = NONE;
        int both = 0;
        for (int i = 3; i >= 0; i--) {
            int x = i / 2;
            int y = i % 2;
            if (has[x][y] >= has[1 - x][y] && has[y][x] >= has[1 - y][x]) {
                many++;
                first = 10 * x + y;
                both = has[x][y] + has[y][x];
            }
        }
        return new int[] {many, first, both}[what];
    }

    int bread(int soul, int among, int n) {
        mustSoul(soul);
        must(among >= 0 && among < 1 << souls && n >= 0 && n <= 99);
        int got = 0;
        for (int bound = 0; bound <= 20; bound++) {
            int given = 0;
            for (int s = 0; s < souls; s++) {
                given += (among >> s & 1) == 1 ? Math.min(bound, pride[s]) : 0;
            }
            if (given <= n) {
                got = Math.min(bound, pride[soul]);
            }
        }
        return (among >> soul & 1) == 1 ? got : 0;
    }

    int worst(int what) {
        must(what >= 0 && what <= 1);
        for (int sum = 30; sum >= 1; sum--) {
            for (int g = 0; g < now.grudges.size(); g++) {
                if (!now.grudges.get(g).gone && now.grudges.get(g).sum == sum) {
                    return what == 0 ? g : sum;
                }
            }
        }
        return NONE;
    }

    int free() {
        int bits = 0;
        for (int s = 0; s < souls; s++) {
            bits += held(s, NONE, false) + held(NONE, s, false) == 0 ? 1 << s : 0;
        }
        return bits;
    }

    int ready(int what) {
        must(what >= 0 && what <= 1);
        int bits = 0;
        int all = 0;
        for (int g = 0; g < now.grudges.size(); g++) {
            if (canForgive(now, g)) {
                bits += 1 << g;
                all += worth(now, now.grudges.get(g));
            }
        }
        return what == 0 ? bits : all;
    }

    int more(int soul) {
        mustSoul(soul);
        return held(soul, NONE, false) - held(NONE, soul, false);
    }

    int proudest(int what) {
        must(what >= 0 && what <= 1);
        for (int p = 9; p >= 1; p--) {
            for (int s = 0; s < souls; s++) {
                if (!now.dead[s] && pride[s] == p) {
                    return what == 0 ? s : p;
                }
            }
        }
        return NONE;
    }

    /** Lets the SOUL die, looks, and takes it back. */
    int estate(int soul) {
        mustSoul(soul);
        World kept = now.copy();
        int bits = 0;
        if (die(soul)) {
            for (int g = 0; g < now.grudges.size(); g++) {
                boolean went = !now.grudges.get(g).gone && kept.grudges.get(g).a == soul;
                bits += went ? 1 << g : 0;
            }
        }
        now = kept;
        return bits;
    }

    int mutual(int what) {
        must(what >= 0 && what <= 1);
        int many = 0;
        int first = NONE;
        for (int a = souls - 1; a >= 0; a--) {
            for (int b = souls - 1; b > a; b--) {
                if (held(a, b, false) > 0 && held(b, a, false) > 0) {
                    many++;
                    first = 10 * a + b;
                }
            }
        }
        return what == 0 ? many : first;
    }

    int ones(int what) {
        must(what >= 0 && what <= 1);
        int bits = 0;
        for (int s = 0; s < souls; s++) {
            boolean alone = !now.dead[s];
            for (int b = 0; b < souls; b++) {
                alone &= !waits[s][b] || now.dead[b];
            }
            bits += (what == 0 ? pass(now.copy(), s) : alone) ? 1 << s : 0;
        }
        return bits;
    }

    private int[] liveYear(int seed, int q, int days) {
        World w = now.copy();
        int[] result = new int[4];
        long x = seed & 0xffffffffL;
        for (int day = 0; day < days && !w.grudges.isEmpty(); day++) {
            x = x * 1103515245L + 12345 & 0xffffffffL;
            result[0] += forgive(w, (int) ((x >> 16 & 0x7fff) % w.grudges.size()), false) ? 1 : 0;
            x = x * 1103515245L + 12345 & 0xffffffffL;
            result[1] += pass(w, (int) ((x >> 16 & 0x7fff) % souls)) ? 1 : 0;
            x = x * 1103515245L + 12345 & 0xffffffffL;
            if ((x >> 16 & 0x7fff) % 16 < q) {
                newWeek(w);
            }
        }
        result[2] = w.swings;
        result[3] = w.week;
        return result;
    }

    int year(int seed, int q, int days, int what) {
        must(q >= 0 && q <= 16 && days >= 1 && days <= 96 && what >= 0 && what <= 3);
        return liveYear(seed, q, days)[what];
    }

    int span(int seed, int many, int q, int days, int what) {
        must(many >= 1 && many <= 20 && q >= 0 && q <= 16 && days >= 1 && days <= 96 && what >= 0 && what <= 2);
        int fewest = 1000;
        int most = 0;
        int with = 0;
        for (int i = 0; i < many; i++) {
            int[] one = liveYear(seed + i, q, days);
            fewest = Math.min(fewest, one[1]);
            most = Math.max(most, one[1]);
            with += one[2] > 0 ? 1 : 0;
        }
        return new int[] {fewest, most, with}[what];
    }

    int image() {
        if (images.size() == 3) {
            return -1;
        }
        List<World> kept = new ArrayList<>();
        for (World w : undos) {
            kept.add(w.copy());
        }
        kept.add(now.copy());
        images.add(kept);
        return images.size();
    }

    int restore() {
        if (images.isEmpty()) {
            return -1;
        }
        undos = images.remove(images.size() - 1);
        now = undos.remove(undos.size() - 1);
        refusedSteps = 0;
        return images.size();
    }

    int status(int what) {
        return what == 0 ? noSuch : what == 1 ? illegal : NONE;
    }

    int count(int what) {
        return what == 0 ? images.size() : what == 1 ? tape.length() : what == 2 ? undos.size() : NONE;
    }
}
