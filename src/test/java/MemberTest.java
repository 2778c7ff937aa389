/** Promise 17: member; its places are seen by the limit that they break. */
public final class MemberTest {
    public static void main(String[] args) {
        Due due = new Due("MemberTest");
        refused(due);
        full(due);
        places(due, true, 0, 0, 0);
        places(due, false, 0, 0, 1);
        places(due, true, 255, 0, 255);
        places(due, true, 3, 4, 11);
        places(due, false, 3, 4, 12);
        places(due, false, 0, 127, 255);
        tooManyFromTheStart(due);
        due.end();
    }

    private static void refused(Due due) {
        SizeForms forms = new SizeForms();
        for (int bad : new int[] {-1, 301, Integer.MIN_VALUE, Integer.MAX_VALUE}) {
            due.same("single " + bad, forms.member(true, bad, 0), SizeForms.BAD);
            due.same("twice " + bad, forms.member(false, 0, bad), SizeForms.BAD);
        }
        due.same("none came", forms.count(5), 0);
        due.same("the most", forms.member(true, 300, 300), 0);
        due.same("the least", forms.member(false, 0, 0), 1);
    }

    private static void full(Due due) {
        SizeForms forms = new SizeForms();
        for (int i = 0; i < 20; i++) {
            due.same("member " + i, forms.member(true, 1, 1), i);
        }
        due.same("one more", forms.member(true, 1, 1), SizeForms.FULL);
        due.same("a bad one", forms.member(true, -1, 1), SizeForms.BAD);
        due.same("how many", forms.count(5), 20);
        forms.unit(0, 1, 0);
        due.same("none has too many places", forms.check(0), 0);
    }

    private static void places(Due due, boolean alone, int single, int twice, int places) {
        SizeForms forms = new SizeForms();
        forms.unit(0, 1, 0);
        forms.member(alone, single, twice);
        forms.limit(5, places);
        due.same(places + " places are not too many", forms.check(0), 0);
        if (places > 0) {
            forms.limit(5, places - 1);
            due.same(places + " places are too many", forms.check(0), 6);
        }
    }

    private static void tooManyFromTheStart(Due due) {
        SizeForms forms = new SizeForms();
        forms.unit(0, 1, 0);
        forms.member(true, 255, 0);
        due.same("255", forms.check(0), 0);
        forms.member(false, 255, 0);
        forms.member(true, 0, 128);
        due.same("256", forms.check(0), 6);
        due.same("the first one", forms.check(1), 1);
    }
}
