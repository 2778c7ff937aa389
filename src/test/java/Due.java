import java.util.Arrays;

/** Compares answers with the ones that are due, and ends the test with exit code 1 if one differs. */
final class Due {
    static final int ILLEGAL_STATE = -1001, NO_SUCH_INDEX = -1002, OTHER_EXCEPTION = -1003;

    private final String name;
    private int compared;
    private int wrong;

    Due(String name) {
        this.name = name;
    }

    void same(String what, long got, long want) {
        compared++;
        if (got != want) {
            wrong++;
            System.out.println(name + ": " + what + " answered " + got + ", due is " + want);
        }
    }

    void bytes(String what, SizeForms forms, int from, int... want) {
        int[] got = new int[want.length];
        for (int i = 0; i < want.length; i++) {
            got[i] = forms.out(from + i);
        }
        same(what + ": bytes " + Arrays.toString(got) + " as " + Arrays.toString(want),
                Arrays.equals(got, want) ? 1 : 0, 1);
    }

    void thrown(String what, SizeForms forms, int i, int want) {
        same(what + ": out(" + i + ")", outcome(forms, i), want);
    }

    /** What out answers, or which exception it throws: by the exact class, none above or below it. */
    static int outcome(SizeForms forms, int i) {
        try {
            return forms.out(i);
        } catch (RuntimeException e) {
            if (e.getClass() == IllegalStateException.class) {
                return ILLEGAL_STATE;
            }
            return e.getClass() == ArrayIndexOutOfBoundsException.class ? NO_SUCH_INDEX : OTHER_EXCEPTION;
        }
    }

    void end() {
        System.out.println(name + ": " + compared + " compared, " + wrong + " wrong");
        if (wrong != 0 || compared == 0) {
            System.exit(1);
        }
    }

    /** Makes a text of the signs and tells its place. */
    static int text(SizeForms forms, int... signs) {
        forms.wipe();
        for (int sign : signs) {
            forms.sign(sign);
        }
        return forms.text();
    }

    static void labels(SizeForms forms, int howMany) {
        for (int i = 0; i < howMany; i++) {
            forms.label();
        }
    }

    /** So many bytes of PLAIN, which only keep units apart. */
    static void plain(SizeForms forms, int bytes) {
        for (int left = bytes; left > 0; left -= 200) {
            forms.unit(0, Math.min(left, 200), 7);
        }
    }
}
