/** Promise 18: check. */
public final class CheckTest {
    public static void main(String[] args) {
        Due due = new Due("CheckTest");
        refused(due);
        everyBoundInOrder(due);
        edgeOfPlaces(due);
        edgeOfTexts(due);
        leastLooseLabel(due);
        edgeOfCode(due);
        edgeOfLocals(due);
        whenItWidens(due);
        due.end();
    }

    private static void bound(Due due, SizeForms forms, int bound, int of) {
        due.same("check(0)", forms.check(0), bound);
        due.same("check(1) at bound " + bound, forms.check(1), of);
    }

    private static void refused(Due due) {
        SizeForms forms = new SizeForms();
        forms.unit(0, 1, 0);
        for (int what : new int[] {-1, 2, Integer.MIN_VALUE, Integer.MAX_VALUE}) {
            due.same("check(" + what + ")", forms.check(what), SizeForms.BAD);
        }
        due.same("what is refused does not widen", forms.count(8), SizeForms.NOT);
        bound(due, forms, 0, 0);
    }

    /** All bounds are broken; they are mended one by one. */
    private static void everyBoundInOrder(Due due) {
        SizeForms forms = new SizeForms();
        forms.number(1, 0);
        Due.text(forms, 5, 6);
        Due.text(forms, 7, 8, 9);
        Due.labels(forms, 2);
        forms.unit(4, 1, 0);
        forms.unit(2, 9, 0);
        forms.member(true, 0, 0);
        forms.member(false, 1, 1);
        int[][] limits = {{0, 1}, {1, 1}, {2, 3}, {4, 5}, {5, 3}};
        for (int[] limit : limits) {
            forms.limit(limit[0], limit[1]);
        }
        bound(due, forms, 1, 4);
        forms.limit(0, 4);
        bound(due, forms, 2, 3);
        forms.limit(1, 2);
        bound(due, forms, 2, 4);
        forms.limit(1, 3);
        bound(due, forms, 3, 1);
        forms.put(1);
        bound(due, forms, 4, 5);
        forms.limit(2, 5);
        bound(due, forms, 5, 10);
        forms.limit(4, 10);
        bound(due, forms, 6, 1);
        forms.limit(5, 4);
        bound(due, forms, 0, 0);
    }

    private static void edgeOfPlaces(Due due) {
        SizeForms forms = new SizeForms();
        forms.unit(0, 1, 0);
        forms.limit(0, 1);
        forms.number(0, 1);
        bound(due, forms, 0, 0);
        forms.number(1, 1);
        bound(due, forms, 1, 3);
        forms.limit(0, 2);
        bound(due, forms, 1, 3);
        forms.limit(0, 3);
        bound(due, forms, 0, 0);
    }

    /** The three bytes ahead of the signs do not count, nor do constants of other sorts. */
    private static void edgeOfTexts(Due due) {
        SizeForms forms = new SizeForms();
        forms.unit(0, 1, 0);
        forms.number(1, 1);
        Due.text(forms);
        forms.link(4, 3, 0);
        forms.limit(1, 0);
        bound(due, forms, 0, 0);
        Due.text(forms, 0);
        bound(due, forms, 2, 5);
        forms.limit(1, 1);
        bound(due, forms, 2, 5);
        forms.limit(1, 2);
        bound(due, forms, 0, 0);
        for (int i = 0; i < 60; i++) {
            forms.sign(2048 + i);
        }
        forms.text();
        forms.limit(1, 179);
        bound(due, forms, 2, 6);
        forms.limit(1, 180);
        bound(due, forms, 0, 0);

        SizeForms first = new SizeForms();
        Due.text(first, 97, 98);
        first.limit(1, 1);
        bound(due, first, 2, 1);
    }

    private static void leastLooseLabel(Due due) {
        SizeForms forms = new SizeForms();
        Due.labels(forms, 5);
        forms.unit(4, 4, 0);
        forms.unit(5, 1, 2);
        bound(due, forms, 3, 2);
        forms.put(2);
        bound(due, forms, 3, 4);
        forms.key(1, 3);
        forms.choice(4);
        bound(due, forms, 3, 3);
        forms.put(3);
        forms.put(4);
        bound(due, forms, 0, 0);
    }

    private static void edgeOfCode(Due due) {
        SizeForms forms = new SizeForms();
        bound(due, forms, 4, 0);
        forms.limit(2, 0);
        bound(due, forms, 4, 0);
        forms.unit(0, 3, 0);
        bound(due, forms, 4, 3);
        forms.limit(2, 2);
        bound(due, forms, 4, 3);
        forms.limit(2, 3);
        bound(due, forms, 0, 0);
        forms.label();
        forms.unit(4, 0, 0);
        Due.plain(forms, 200);
        forms.put(0);
        forms.limit(2, 206);
        bound(due, forms, 0, 0);
        forms.limit(3, 100);
        bound(due, forms, 4, 208);
    }

    private static void edgeOfLocals(Due due) {
        SizeForms forms = new SizeForms();
        forms.unit(0, 1, 0);
        forms.limit(4, 0);
        bound(due, forms, 0, 0);
        forms.unit(2, 0, 0);
        bound(due, forms, 5, 1);
        forms.limit(4, 1);
        bound(due, forms, 0, 0);
        forms.unit(3, 300, 1);
        bound(due, forms, 5, 301);
        forms.limit(4, 301);
        bound(due, forms, 0, 0);
        forms.limit(4, 65535);
        forms.unit(2, 65534, 0);
        bound(due, forms, 0, 0);
        forms.unit(3, 65535, 0);
        bound(due, forms, 5, 65536);
    }

    private static void whenItWidens(Due due) {
        SizeForms forms = new SizeForms();
        forms.number(1, 1);
        forms.unit(0, 9, 1);
        forms.limit(0, 1);
        forms.check(0);
        due.same("not when an earlier bound is broken", forms.count(8), SizeForms.NOT);
        forms.limit(0, 2);
        forms.sign(9);
        forms.text();
        forms.limit(0, 3);
        forms.limit(1, 0);
        forms.check(1);
        due.same("not when a text is too long", forms.count(8), SizeForms.NOT);
        forms.limit(1, 1);
        forms.check(1);
        due.same("when the code is looked at", forms.count(8), 9);
        forms.unit(0, 1, 1);
        forms.limit(2, 5);
        forms.check(0);
        due.same("when the code is too long, too", forms.count(8), 10);
    }
}
