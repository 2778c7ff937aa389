/** Promise 1: nothing is there. */
public final class NewObjectTest {
    public static void main(String[] args) {
        Due due = new Due("NewObjectTest");
        nothingIsThere(due);
        objectsAreApart(due);
        due.end();
    }

    private static void nothingIsThere(Due due) {
        SizeForms forms = new SizeForms();
        int[] counts = {0, 1, 0, 0, 0, 0, 0, 0, SizeForms.NOT, 0};
        for (int what = 0; what < counts.length; what++) {
            due.same("count(" + what + ")", forms.count(what), counts[what]);
        }
        due.same("wipe()", forms.wipe(), 0);
        due.same("told(1, 0)", forms.told(1, 0), SizeForms.NONE);
        due.same("put(0)", forms.put(0), SizeForms.BAD);
        due.same("of(0, 0)", forms.of(0, 0), SizeForms.BAD);
        due.thrown("no code", forms, 0, Due.ILLEGAL_STATE);
        due.same("check(0)", forms.check(0), 4);
        due.same("check(1)", forms.check(1), 0);
    }

    private static void objectsAreApart(Due due) {
        SizeForms one = new SizeForms();
        one.number(0, 1);
        one.label();
        one.unit(2, 9, 0);
        one.member(true, 1, 1);
        one.sign(1);
        one.key(1, 0);
        one.limit(0, 1);
        SizeForms other = new SizeForms();
        for (int what : new int[] {0, 2, 3, 4, 5, 6, 7, 9}) {
            due.same("the other's count(" + what + ")", other.count(what), 0);
        }
        due.same("the other's limit", other.limit(0, 5), 65535);
    }
}
