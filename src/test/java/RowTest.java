/** Promises 3 and 4: sign, wipe. */
public final class RowTest {
    public static void main(String[] args) {
        Due due = new Due("RowTest");
        SizeForms forms = new SizeForms();
        for (int c : new int[] {-1, 65536, Integer.MIN_VALUE, Integer.MAX_VALUE}) {
            due.same("sign(" + c + ")", forms.sign(c), SizeForms.BAD);
        }
        due.same("refused signs", forms.count(6), 0);
        due.same("sign(0)", forms.sign(0), 1);
        due.same("sign(65535)", forms.sign(65535), 2);
        for (int i = 3; i <= 60; i++) {
            due.same("sign " + i, forms.sign(97), i);
        }
        due.same("sign 61", forms.sign(97), SizeForms.FULL);
        due.same("a bad one when full", forms.sign(-1), SizeForms.BAD);
        due.same("how many", forms.count(6), 60);
        due.same("wipe()", forms.wipe(), 60);
        due.same("none left", forms.count(6), 0);
        due.same("wipe() again", forms.wipe(), 0);
        due.same("the first of a new row", forms.sign(98), 1);
        int place = forms.text();
        due.same("a text does not hold what was wiped", forms.told(place, 1), 4);
        due.end();
    }
}
