import java.util.ArrayList;
import java.util.List;

/** An object with the run of its calls: each one is written down with its answer, and none comes behind the 512th. */
final class Asked {
    static final int MOST_CALLS = 512;

    private final SizeForms forms = new SizeForms();
    private final List<String> calls = new ArrayList<>();
    private final Due due;
    private final String sentence;

    /** For a test of one sentence of the document, which is told with each answer that is wrong. */
    Asked(Due due, String sentence) {
        this.due = due;
        this.sentence = sentence;
    }

    /** The answer of the last call is the one that is due. */
    void is(int got, int want) {
        due.same("'" + sentence + "': " + calls.size() + " calls, the last one " + calls.get(calls.size() - 1), got, want);
    }

    /** Bytes of the code, from one on. */
    void bytesAre(int from, int... want) {
        for (int i = 0; i < want.length; i++) {
            is(out(from + i), want[i]);
        }
    }

    /** The bytes of a unit, no more and no less. */
    void unitIs(int unit, int... want) {
        is(of(unit, 2), want.length);
        bytesAre(of(unit, 0), want);
    }

    int made() {
        return calls.size();
    }

    int left() {
        return MOST_CALLS - calls.size();
    }

    List<String> callsFrom(int index) {
        return calls.subList(index, calls.size());
    }

    private int noted(String call, int answer) {
        if (calls.size() >= MOST_CALLS) {
            throw new IllegalStateException("a test makes more calls than are promised: " + call);
        }
        calls.add(call + " answered " + answer);
        return answer;
    }

    int limit(int what, int v) {
        return noted("limit(" + what + ", " + v + ")", forms.limit(what, v));
    }

    int sign(int c) {
        return noted("sign(" + c + ")", forms.sign(c));
    }

    int wipe() {
        return noted("wipe()", forms.wipe());
    }

    int number(int sort, long bits) {
        return noted("number(" + sort + ", " + bits + ")", forms.number(sort, bits));
    }

    int text() {
        return noted("text()", forms.text());
    }

    int link(int sort, int a, int b) {
        return noted("link(" + sort + ", " + a + ", " + b + ")", forms.link(sort, a, b));
    }

    int told(int place, int what) {
        return noted("told(" + place + ", " + what + ")", forms.told(place, what));
    }

    int label() {
        return noted("label()", forms.label());
    }

    int put(int label) {
        return noted("put(" + label + ")", forms.put(label));
    }

    int unit(int sort, int a, int b) {
        return noted("unit(" + sort + ", " + a + ", " + b + ")", forms.unit(sort, a, b));
    }

    int key(int v, int label) {
        return noted("key(" + v + ", " + label + ")", forms.key(v, label));
    }

    int choice(int label) {
        return noted("choice(" + label + ")", forms.choice(label));
    }

    int widen() {
        return noted("widen()", forms.widen());
    }

    int of(int unit, int what) {
        return noted("of(" + unit + ", " + what + ")", forms.of(unit, what));
    }

    /** A byte, or Due's number of the exception. */
    int out(int i) {
        return noted("out(" + i + ")", Due.outcome(forms, i));
    }

    int member(boolean alone, int single, int twice) {
        return noted("member(" + alone + ", " + single + ", " + twice + ")", forms.member(alone, single, twice));
    }

    int check(int what) {
        return noted("check(" + what + ")", forms.check(what));
    }

    int count(int what) {
        return noted("count(" + what + ")", forms.count(what));
    }

    void labels(int howMany) {
        for (int i = 0; i < howMany; i++) {
            label();
        }
    }

    /** The row has these signs and no others. */
    void row(int... signs) {
        wipe();
        for (int sign : signs) {
            sign(sign);
        }
    }

    int textOf(int... signs) {
        row(signs);
        return text();
    }

    /** So many bytes of PLAIN, which only keep units apart. */
    void plain(int bytes) {
        for (int left = bytes; left > 0; left -= 200) {
            unit(0, Math.min(left, 200), 7);
        }
    }
}
