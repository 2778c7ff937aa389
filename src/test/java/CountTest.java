/** Promise 19: count. */
public final class CountTest {
    public static void main(String[] args) {
        Due due = new Due("CountTest");
        SizeForms forms = new SizeForms();
        for (int what : new int[] {-1, 10, Integer.MIN_VALUE, Integer.MAX_VALUE}) {
            due.same("count(" + what + ")", forms.count(what), SizeForms.BAD);
        }
        forms.number(0, 1);
        forms.number(1, 1);
        forms.number(2, 1);
        forms.number(2, 1);
        Due.text(forms, 0, 1, 2048);
        forms.link(4, 6, 0);
        forms.link(5, 6, 6);
        forms.link(6, 7, 8);
        forms.sign(1);
        forms.sign(2);
        Due.labels(forms, 3);
        forms.put(0);
        forms.unit(2, 8, 0);
        forms.unit(3, 12, 0);
        forms.unit(2, 10, 0);
        forms.unit(4, 0, 0);
        forms.key(4, 0);
        forms.member(true, 1, 2);
        forms.member(true, 1, 2);
        int[] want = {7, 10, 5 + 9 + 9 + 9 + 3 + 5 + 5, 4, 3, 2, 2, 1, SizeForms.NOT, 13};
        for (int what = 0; what < want.length; what++) {
            due.same("count(" + what + ")", forms.count(what), want[what]);
        }
        forms.widen();
        due.same("count(8), widened", forms.count(8), 10);
        due.end();
    }
}
