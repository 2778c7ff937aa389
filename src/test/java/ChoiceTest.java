/** Promises 12 and 13: key, choice; with the bytes of both forms. */
public final class ChoiceTest {
    public static void main(String[] args) {
        Due due = new Due("ChoiceTest");
        keys(due);
        choices(due);
        fullCode(due);
        table(due);
        list(due);
        paddings(due);
        whichForm(due);
        due.end();
    }

    private static void keys(Due due) {
        SizeForms forms = new SizeForms();
        due.same("no such label", forms.key(1, 0), SizeForms.BAD);
        Due.labels(forms, 2);
        for (int label : new int[] {-1, 2, Integer.MIN_VALUE, Integer.MAX_VALUE}) {
            due.same("key(1, " + label + ")", forms.key(1, label), SizeForms.BAD);
        }
        due.same("the least key", forms.key(Integer.MIN_VALUE, 0), 1);
        due.same("the same key", forms.key(Integer.MIN_VALUE, 1), SizeForms.BAD);
        due.same("key(-7, 1)", forms.key(-7, 1), 2);
        due.same("one below", forms.key(-8, 1), SizeForms.BAD);
        for (int i = 3; i <= 20; i++) {
            due.same("key " + i, forms.key(i, 0), i);
        }
        due.same("key 21", forms.key(21, 0), SizeForms.FULL);
        due.same("not above, when full", forms.key(20, 0), SizeForms.BAD);
        due.same("no such label, when full", forms.key(21, 2), SizeForms.BAD);
        due.same("how many", forms.count(7), 20);
        due.same("labels of keys are not used by code yet", forms.widen(), 1);
        due.same("a key leaves it widened", forms.count(8), 0);
    }

    private static void choices(Due due) {
        SizeForms forms = new SizeForms();
        due.same("no such label", forms.choice(0), SizeForms.BAD);
        Due.labels(forms, 3);
        forms.key(5, 1);
        for (int label : new int[] {-1, 3, Integer.MIN_VALUE, Integer.MAX_VALUE}) {
            due.same("choice(" + label + ")", forms.choice(label), SizeForms.BAD);
        }
        due.same("the keys stay", forms.count(7), 1);
        due.same("choice(0)", forms.choice(0), 0);
        due.same("the keys are none", forms.count(7), 0);
        due.same("any key may be the first one again", forms.key(-5, 2), 1);
        due.same("label for others is used", forms.check(1), 0);
        forms.put(0);
        due.same("label of a key is used", forms.check(1), 1);
        due.same("not widened", forms.widen(), SizeForms.NOT);
        forms.put(1);
        due.same("label of a key that waits is not used", forms.widen(), 1);
        due.same("another choice", forms.choice(0), 1);
        due.same("a choice undoes it", forms.count(8), SizeForms.NOT);
    }

    private static void fullCode(Due due) {
        SizeForms forms = new SizeForms();
        Due.labels(forms, 2);
        for (int i = 0; i < 150; i++) {
            forms.unit(0, 1, 0);
        }
        forms.widen();
        forms.key(1, 1);
        due.same("choice in full code", forms.choice(0), SizeForms.FULL);
        due.same("no such label in full code", forms.choice(2), SizeForms.BAD);
        due.same("the keys stay", forms.count(7), 1);
        due.same("the next key goes behind", forms.key(1, 0), SizeForms.BAD);
        due.same("still widened", forms.count(8), 150);
        due.same("no label is used", forms.widen(), 1);
    }

    /** Labels 0 at the start, 1 at the choice, 2 at the end. */
    private static SizeForms withChoice(int ahead, int... keysAndLabels) {
        SizeForms forms = new SizeForms();
        Due.labels(forms, 3);
        forms.put(0);
        Due.plain(forms, ahead);
        forms.put(1);
        for (int i = 0; i < keysAndLabels.length; i += 2) {
            forms.key(keysAndLabels[i], keysAndLabels[i + 1]);
        }
        forms.choice(0);
        forms.put(2);
        forms.widen();
        return forms;
    }

    private static void table(Due due) {
        SizeForms forms = withChoice(1, -1, 2, 0, 1, 2, 0);
        due.bytes("a table", forms, 0,
                7, 170, 0, 0, 255, 255, 255, 255, 255, 255, 255, 255, 0, 0, 0, 2,
                0, 0, 0, 31, 0, 0, 0, 0, 255, 255, 255, 255, 255, 255, 255, 255);
        due.same("form", forms.of(1, 1), 0);
        due.same("bytes", forms.of(1, 2), 31);
        due.same("d", forms.of(1, 3), -1);

        SizeForms greatest = withChoice(3, Integer.MAX_VALUE - 2, 2, Integer.MAX_VALUE - 1, 1, Integer.MAX_VALUE, 2);
        due.bytes("a table of the greatest keys", greatest, 3,
                170, 255, 255, 255, 253, 127, 255, 255, 253, 127, 255, 255, 255,
                0, 0, 0, 25, 0, 0, 0, 0, 0, 0, 0, 25);
    }

    private static void list(Due due) {
        SizeForms forms = withChoice(2, -2, 2, 1000, 1);
        due.bytes("a list", forms, 2,
                171, 0, 255, 255, 255, 254, 0, 0, 0, 2,
                255, 255, 255, 254, 0, 0, 0, 26, 0, 0, 3, 232, 0, 0, 0, 0);
        due.same("form", forms.of(1, 1), 1);
        due.same("bytes", forms.of(1, 2), 26);
        due.same("d", forms.of(1, 3), -2);

        SizeForms empty = withChoice(4);
        due.bytes("a list of no key", empty, 4, 171, 0, 0, 0, 255, 255, 255, 252, 0, 0, 0, 0);
        due.same("its form", empty.of(1, 1), 1);
        due.same("its bytes", empty.of(1, 2), 12);
    }

    private static void paddings(Due due) {
        int[] sizes = {12, 11, 10, 9};
        for (int ahead = 1; ahead <= 8; ahead++) {
            SizeForms forms = withChoice(ahead);
            due.same("bytes at " + ahead, forms.of(1, 2), sizes[ahead % 4]);
            due.same("address at " + ahead, forms.of(1, 0), ahead);
        }
    }

    /** A table needs 4 times the numbers, and 4, not above 8 times the keys. */
    private static void whichForm(Due due) {
        due.same("one key", withChoice(1, 7, 0).of(1, 1), 0);
        due.same("2 keys of 2", withChoice(1, 7, 0, 8, 0).of(1, 1), 0);
        due.same("2 keys of 3", withChoice(1, 7, 0, 9, 0).of(1, 1), 0);
        due.same("2 keys of 4", withChoice(1, 7, 0, 10, 0).of(1, 1), 1);
        due.same("3 keys of 5", withChoice(1, 7, 0, 8, 0, 11, 0).of(1, 1), 0);
        due.same("3 keys of 6", withChoice(1, 7, 0, 8, 0, 12, 0).of(1, 1), 1);
        int low = Integer.MIN_VALUE, high = Integer.MAX_VALUE;
        due.same("keys as far apart as can be", withChoice(1, low, 0, high, 0).of(1, 1), 1);
        due.same("so far that an int wraps to few", withChoice(1, low, 0, 0, 0, high, 0).of(1, 1), 1);
        due.same("so far that 4 times wraps to few", withChoice(1, 0, 0, 0x40000000, 0).of(1, 1), 1);
        int[] twenty = new int[40];
        for (int i = 0; i < 20; i++) {
            twenty[2 * i] = 2 * i;
        }
        due.same("20 keys of 39", withChoice(1, twenty).of(1, 1), 0);
        due.same("its bytes", withChoice(1, twenty).of(1, 2), 1 + 2 + 12 + 156);
        twenty[38] = 39;
        due.same("20 keys of 40", withChoice(1, twenty).of(1, 1), 1);
        due.same("its bytes", withChoice(1, twenty).of(1, 2), 1 + 2 + 8 + 160);
    }
}
