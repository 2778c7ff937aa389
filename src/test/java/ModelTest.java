import java.util.ArrayDeque;
import java.util.Random;

/** Long runs of drawn calls, with the same seeds every time; each answer is compared with the Model's. */
public final class ModelTest {
    private static final int RUNS = 3000, CALLS = 512;
    private static final int[] EDGES = {
        Integer.MIN_VALUE, -32769, -32768, -129, -128, -4, -3, -2, -1, 0, 1, 2, 3, 4, 5, 6, 7, 127, 128, 200, 201,
        255, 256, 300, 301, 2047, 2048, 32767, 32768, 65535, 65536, Integer.MAX_VALUE
    };
    /** How often each method is drawn, in the order of the promises 2 to 19: by one row in each run. */
    private static final int[][] WEIGHTS = {
        {2, 8, 1, 8, 3, 4, 3, 3, 4, 12, 4, 2, 2, 4, 4, 1, 2, 2},
        {1, 1, 1, 40, 1, 8, 2, 1, 1, 3, 1, 1, 1, 1, 1, 1, 1, 1},
        {2, 1, 1, 1, 1, 1, 1, 6, 10, 30, 14, 4, 3, 6, 8, 1, 1, 2},
        {1, 60, 1, 1, 2, 1, 3, 1, 1, 1, 1, 1, 1, 1, 1, 6, 4, 1},
        {1, 0, 0, 2, 0, 0, 0, 10, 8, 60, 0, 0, 1, 4, 6, 0, 1, 1},
        {1, 0, 0, 0, 0, 0, 0, 4, 3, 2, 40, 4, 2, 8, 12, 0, 1, 1}
    };

    private final Random random;
    private final SizeForms forms = new SizeForms();
    private final Model model = new Model();
    private final ArrayDeque<String> lastCalls = new ArrayDeque<>();
    private int lastKey = -50;

    private ModelTest(long seed) {
        random = new Random(seed);
    }

    public static void main(String[] args) {
        Due due = new Due("ModelTest");
        for (int seed = 1; seed <= RUNS; seed++) {
            String fault = new ModelTest(seed).run(WEIGHTS[seed % WEIGHTS.length]);
            if (fault != null) {
                System.out.println("ModelTest: run " + seed + ": " + fault);
            }
            due.same("run " + seed, fault == null ? 0 : 1, 0);
        }
        for (int seed = 1; seed <= 50; seed++) {
            new ModelTest(-seed).runWild();
        }
        due.end();
    }

    private String run(int[] weights) {
        int reach = random.nextInt(3) == 0 ? 32767 : 5 + random.nextInt(300);
        forms.limit(3, reach);
        model.limit(3, reach);
        int first = 1;
        if (random.nextInt(8) == 0) {
            first += 380 + random.nextInt(25);
            if (!fillsPool(first - 1)) {
                return "the last call that fills the pool is wrong: " + lastCalls;
            }
        }
        int drawn = first > 1 || random.nextBoolean() ? CALLS : 150 + random.nextInt(150);
        for (int call = first; call < drawn; call++) {
            if (!isSame(draw(weights))) {
                return "the last call is wrong: " + lastCalls;
            }
        }
        return drawn == CALLS || isSameAtEnd(CALLS - drawn) ? null : "the last call at the end is wrong: " + lastCalls;
    }

    /** Drawn calls alone hardly ever come to the 400th constant; some texts are there, so that links can be drawn. */
    private boolean fillsPool(int calls) {
        for (int call = 0; call < calls; call++) {
            boolean isText = call % 40 == 39;
            if (!(isText ? same("text()", forms.text(), model.text()) : number(random.nextInt(3), call))) {
                return false;
            }
        }
        return true;
    }

    /** All labels are put, so that the code can be widened; the calls that are left look at its units and bytes. */
    private boolean isSameAtEnd(int calls) {
        int labels = model.count(4);
        for (int label = 0; label < labels; label++) {
            if (!same("put(" + label + ")", forms.put(label), model.put(label))) {
                return false;
            }
        }
        if (!same("widen()", forms.widen(), model.widen())) {
            return false;
        }
        int[] looks = {13, 14, 14};
        for (int call = labels + 1; call < calls; call++) {
            if (!isSame(looks[call % looks.length])) {
                return false;
            }
        }
        return true;
    }

    /** Far more calls than are promised, of any arguments: answers are free, but nothing may be thrown. */
    private void runWild() {
        for (int call = 0; call < 4000; call++) {
            isSame(draw(WEIGHTS[0]));
        }
    }

    private int draw(int[] weights) {
        int sum = 0;
        for (int weight : weights) {
            sum += weight;
        }
        int left = random.nextInt(sum);
        int method = 0;
        while (left >= weights[method]) {
            left -= weights[method];
            method++;
        }
        return method;
    }

    private int some(int below) {
        return random.nextInt(40) == 0 ? EDGES[random.nextInt(EDGES.length)] : random.nextInt(below);
    }

    private int edge() {
        return EDGES[random.nextInt(EDGES.length)];
    }

    private int place() {
        return some(Math.max(1, model.count(1)) + 1);
    }

    /** A place of a constant of that sort, if there is one: not always, so that links are refused, too. */
    private int placeOf(int sort) {
        int place = place();
        for (int tries = random.nextInt(100); tries > 10 && model.told(place, 0) != sort; tries--) {
            place = place();
        }
        return place;
    }

    private int aLabel() {
        return random.nextInt(40) == 0 ? edge() : random.nextInt(Math.max(1, model.count(4)));
    }

    private boolean isSame(int method) {
        switch (method) {
            case 0: return limit(some(6), random.nextBoolean() ? edge() : random.nextInt(900));
            case 1: {
                int c = random.nextInt(3) == 0 ? edge() : 97 + random.nextInt(3);
                return same("sign(" + c + ")", forms.sign(c), model.sign(c));
            }
            case 2: return same("wipe()", forms.wipe(), model.wipe());
            case 3: return number(some(3), someBits());
            case 4: return same("text()", forms.text(), model.text());
            case 5: return link(4 + some(3));
            case 6: return told(place(), some(4));
            case 7: return same("label()", forms.label(), model.label());
            case 8: {
                int label = aLabel();
                return same("put(" + label + ")", forms.put(label), model.put(label));
            }
            case 9: return unit(some(6));
            case 10: return key();
            case 11: {
                int label = aLabel();
                return same("choice(" + label + ")", forms.choice(label), model.choice(label));
            }
            case 12: return same("widen()", forms.widen(), model.widen());
            case 13: return of(some(Math.max(1, model.count(3)) + 1), some(4));
            case 14: return out(some(Math.max(1, model.count(8)) + 2));
            case 15: return member(random.nextBoolean(), memberArgument(), memberArgument());
            case 16: {
                int what = some(2);
                return same("check(" + what + ")", forms.check(what), model.check(what));
            }
            default: {
                int what = some(10);
                return same("count(" + what + ")", forms.count(what), model.count(what));
            }
        }
    }

    private boolean same(String call, int got, int want) {
        lastCalls.add(call + " " + got + (got == want ? "" : ", due is " + want));
        if (lastCalls.size() > 40) {
            lastCalls.remove();
        }
        return got == want;
    }

    private boolean limit(int what, int v) {
        return same("limit(" + what + ", " + v + ")", forms.limit(what, v), model.limit(what, v));
    }

    private long someBits() {
        long[] bits = {
            random.nextInt(600), random.nextLong(), edge(), 0x7ff0000000000000L + random.nextInt(3),
            0xfff0000000000000L + random.nextInt(3), ((long) random.nextInt(3) << 32) + random.nextInt(3)
        };
        return bits[random.nextInt(bits.length)];
    }

    private boolean number(int sort, long bits) {
        return same("number(" + sort + ", " + bits + ")", forms.number(sort, bits), model.number(sort, bits));
    }

    private boolean link(int sort) {
        int a = placeOf(sort == 6 ? 4 : 3), b = placeOf(sort == 6 ? 5 : 3);
        return same("link(" + sort + ", " + a + ", " + b + ")", forms.link(sort, a, b), model.link(sort, a, b));
    }

    private boolean told(int place, int what) {
        return same("told(" + place + ", " + what + ")", forms.told(place, what), model.told(place, what));
    }

    private boolean unit(int sort) {
        int a, b = some(256);
        switch (sort) {
            case 0: a = some(random.nextInt(6) == 0 ? 201 : 20); break;
            case 1: a = place(); break;
            case 2: a = random.nextBoolean() ? edge() : random.nextInt(400); break;
            case 3: a = random.nextBoolean() ? edge() : random.nextInt(400); b = edge(); break;
            case 4: a = aLabel(); break;
            default: a = some(6); b = aLabel();
        }
        return same("unit(" + sort + ", " + a + ", " + b + ")", forms.unit(sort, a, b), model.unit(sort, a, b));
    }

    private boolean key() {
        int label = aLabel();
        int v = model.count(7) == 0 ? random.nextInt(100) - 50 : lastKey + 1 + random.nextInt(3);
        if (random.nextInt(60) == 0) {
            v = random.nextBoolean() ? edge() : lastKey;
        }
        int got = forms.key(v, label);
        if (got > 0) {
            lastKey = v;
        }
        return same("key(" + v + ", " + label + ")", got, model.key(v, label));
    }

    private boolean of(int unit, int what) {
        return same("of(" + unit + ", " + what + ")", forms.of(unit, what), model.of(unit, what));
    }

    private boolean out(int i) {
        return same("out(" + i + ")", Due.outcome(forms, i), model.outcome(i));
    }

    private int memberArgument() {
        return random.nextInt(4) == 0 ? edge() : random.nextInt(150);
    }

    private boolean member(boolean alone, int single, int twice) {
        return same("member(" + alone + ", " + single + ", " + twice + ")",
                forms.member(alone, single, twice), model.member(alone, single, twice));
    }
}
