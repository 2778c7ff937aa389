/** Promise 2: limit. */
public final class LimitTest {
    private static final int[] LEAST = {1, 0, 0, 1, 0, 0};
    private static final int[] GREATEST = {65535, 65535, 65535, 32767, 65535, 255};

    public static void main(String[] args) {
        Due due = new Due("LimitTest");
        for (int what = 0; what < LEAST.length; what++) {
            edges(due, what);
        }
        noSuchLimit(due);
        reachUndoesWidening(due);
        due.end();
    }

    private static void edges(Due due, int what) {
        SizeForms forms = new SizeForms();
        String name = "limit " + what;
        due.same(name + " below the least", forms.limit(what, LEAST[what] - 1), SizeForms.BAD);
        due.same(name + " above the greatest", forms.limit(what, GREATEST[what] + 1), SizeForms.BAD);
        due.same(name + " far below", forms.limit(what, Integer.MIN_VALUE), SizeForms.BAD);
        due.same(name + " far above", forms.limit(what, Integer.MAX_VALUE), SizeForms.BAD);
        due.same(name + " is the greatest at first", forms.limit(what, LEAST[what]), GREATEST[what]);
        due.same(name + " was the least", forms.limit(what, GREATEST[what]), LEAST[what]);
        due.same(name + " was the greatest", forms.limit(what, 77), GREATEST[what]);
        due.same(name + " refused", forms.limit(what, -5), SizeForms.BAD);
        due.same(name + " stays when refused", forms.limit(what, 78), 77);
        for (int other = 0; other < LEAST.length; other++) {
            if (other != what) {
                due.same(name + " leaves limit " + other, forms.limit(other, GREATEST[other]), GREATEST[other]);
            }
        }
    }

    private static void noSuchLimit(Due due) {
        SizeForms forms = new SizeForms();
        for (int what : new int[] {-1, 6, Integer.MIN_VALUE, Integer.MAX_VALUE}) {
            due.same("limit(" + what + ", 1)", forms.limit(what, 1), SizeForms.BAD);
        }
    }

    private static void reachUndoesWidening(Due due) {
        SizeForms forms = new SizeForms();
        forms.unit(0, 1, 0);
        forms.widen();
        for (int what : new int[] {0, 1, 2, 4, 5}) {
            forms.limit(what, 9);
            due.same("still widened after limit " + what, forms.count(8), 1);
        }
        forms.limit(3, 0);
        due.same("still widened after a refused reach", forms.count(8), 1);
        forms.limit(3, 32767);
        due.same("not widened after the same reach again", forms.count(8), SizeForms.NOT);
        due.thrown("after a reach", forms, 0, Due.ILLEGAL_STATE);
    }
}
