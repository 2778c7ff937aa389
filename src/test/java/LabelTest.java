/** Promises 9 and 10: label, put. */
public final class LabelTest {
    public static void main(String[] args) {
        Due due = new Due("LabelTest");
        labels(due);
        puts(due);
        whatUndoesWidening(due);
        due.end();
    }

    private static void labels(Due due) {
        SizeForms forms = new SizeForms();
        for (int i = 0; i < 40; i++) {
            due.same("label " + i, forms.label(), i);
        }
        due.same("one more", forms.label(), SizeForms.FULL);
        due.same("how many", forms.count(4), 40);
        due.same("the last one can be put", forms.put(39), 0);
        due.same("none behind it", forms.put(40), SizeForms.BAD);
    }

    private static void puts(Due due) {
        SizeForms forms = new SizeForms();
        Due.labels(forms, 4);
        for (int label : new int[] {-1, 4, Integer.MIN_VALUE, Integer.MAX_VALUE}) {
            due.same("put(" + label + ")", forms.put(label), SizeForms.BAD);
        }
        due.same("put(2) at the start", forms.put(2), 0);
        due.same("put(2) again", forms.put(2), SizeForms.NOT);
        forms.unit(0, 1, 0);
        due.same("put(2) later", forms.put(2), SizeForms.NOT);
        due.same("put(0)", forms.put(0), 1);
        due.same("put(1) at the same unit", forms.put(1), 1);
        for (int i = 1; i < 150; i++) {
            forms.unit(0, 1, 0);
        }
        due.same("put(3) at the end of full code", forms.put(3), 150);
    }

    private static void whatUndoesWidening(Due due) {
        SizeForms forms = new SizeForms();
        forms.unit(0, 2, 0);
        forms.widen();
        due.same("label()", forms.label(), 0);
        due.same("a label leaves it widened", forms.count(8), 2);
        forms.put(5);
        due.same("a bad put leaves it widened", forms.count(8), 2);
        forms.put(0);
        due.same("a put undoes it", forms.count(8), SizeForms.NOT);
        forms.widen();
        forms.put(0);
        due.same("a put that is not now leaves it widened", forms.count(8), 2);
    }
}
