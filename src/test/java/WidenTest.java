/** Promises 14 to 16: widen, of, out; with the bytes of jumps. */
public final class WidenTest {
    public static void main(String[] args) {
        Due due = new Due("WidenTest");
        nothingToWiden(due);
        looseLabels(due);
        reachAhead(due);
        reachBehind(due);
        ifBytes(due);
        roundsFollowEachOther(due);
        roundsGoByAddressesAsTheyAre(due);
        paddingMoves(due);
        againFromShort(due);
        manyRounds(due);
        whatIsRefused(due);
        due.end();
    }

    private static void nothingToWiden(Due due) {
        SizeForms forms = new SizeForms();
        due.same("widen() of no code", forms.widen(), 1);
        due.same("its bytes", forms.count(8), 0);
        due.thrown("no byte", forms, 0, Due.NO_SUCH_INDEX);
        due.same("none such", forms.of(0, 0), SizeForms.BAD);
    }

    private static void looseLabels(Due due) {
        SizeForms forms = new SizeForms();
        Due.labels(forms, 3);
        forms.unit(5, 0, 2);
        due.same("a label that is used is not put", forms.widen(), SizeForms.NOT);
        due.same("it is not widened", forms.count(8), SizeForms.NOT);
        due.same("of", forms.of(0, 0), SizeForms.NOT);
        due.thrown("not widened", forms, 0, Due.ILLEGAL_STATE);
        due.thrown("not widened", forms, -1, Due.ILLEGAL_STATE);
        forms.put(2);
        due.same("others do not count", forms.widen(), 1);
        forms.unit(4, 0, 0);
        due.same("another one is used", forms.widen(), SizeForms.NOT);
    }

    /** A jump over so many bytes, with the reach 20. */
    private static SizeForms jumpOver(int sort, int bytes) {
        SizeForms forms = new SizeForms();
        forms.limit(3, 20);
        forms.label();
        forms.unit(sort, 0, 0);
        Due.plain(forms, bytes);
        forms.put(0);
        return forms;
    }

    private static void reachAhead(Due due) {
        SizeForms reached = jumpOver(4, 17);
        due.same("d is the reach", reached.widen(), 1);
        due.same("d", reached.of(0, 3), 20);
        due.same("form", reached.of(0, 1), 0);
        due.same("bytes", reached.of(0, 2), 3);
        due.bytes("short", reached, 0, 167, 0, 20, 7);

        SizeForms far = jumpOver(4, 18);
        due.same("d is above the reach", far.widen(), 2);
        due.same("d when wide", far.of(0, 3), 23);
        due.same("form", far.of(0, 1), 1);
        due.same("bytes", far.of(0, 2), 5);
        due.same("address of the next", far.of(1, 0), 5);
        due.bytes("wide", far, 0, 200, 0, 0, 0, 23, 7);

        SizeForms farIf = jumpOver(5, 18);
        due.same("an if", farIf.widen(), 2);
        due.same("d is not e", farIf.of(0, 3), 26);
        due.same("bytes", farIf.of(0, 2), 8);
        due.bytes("wide if", farIf, 0, 154, 0, 8, 200, 0, 0, 0, 23, 7);
        due.same("all bytes", farIf.count(8), 26);
    }

    private static SizeForms jumpBack(int bytes) {
        SizeForms forms = new SizeForms();
        forms.limit(3, 20);
        forms.label();
        forms.put(0);
        Due.plain(forms, bytes);
        forms.unit(4, 0, 0);
        return forms;
    }

    private static void reachBehind(Due due) {
        SizeForms reached = jumpBack(21);
        due.same("d is one below the reach", reached.widen(), 1);
        due.same("d", reached.of(1, 3), -21);
        due.bytes("short", reached, 21, 167, 255, 235);
        SizeForms far = jumpBack(22);
        due.same("d is two below the reach", far.widen(), 2);
        due.same("d", far.of(1, 3), -22);
        due.bytes("wide", far, 22, 200, 255, 255, 255, 234);
    }

    private static void ifBytes(Due due) {
        int[] others = {154, 153, 156, 155, 158, 157};
        for (int c = 0; c < 6; c++) {
            SizeForms forms = new SizeForms();
            forms.label();
            forms.put(0);
            Due.plain(forms, 300);
            int jump = forms.unit(5, c, 0);
            forms.widen();
            due.bytes("short if " + c, forms, 300, 153 + c, 254, 212);
            forms.limit(3, 299);
            due.same("one below the reach", forms.widen(), 1);
            forms.limit(3, 298);
            due.same("too far", forms.widen(), 2);
            due.bytes("wide if " + c, forms, 300, others[c], 0, 8, 200, 255, 255, 254, 209);
            due.same("d", forms.of(jump, 3), -300);
        }
    }

    /** The second jump is wide only since the first one, which it jumps over, is. */
    private static void roundsFollowEachOther(Due due) {
        SizeForms forms = new SizeForms();
        forms.limit(3, 10);
        Due.labels(forms, 2);
        forms.unit(4, 0, 0);
        forms.unit(4, 1, 0);
        Due.plain(forms, 4);
        forms.put(0);
        Due.plain(forms, 3);
        forms.put(1);
        due.same("both reach: 10 and 10", forms.widen(), 1);

        SizeForms chain = new SizeForms();
        chain.limit(3, 10);
        Due.labels(chain, 2);
        chain.unit(4, 0, 0);
        chain.unit(4, 1, 0);
        Due.plain(chain, 4);
        chain.put(0);
        Due.plain(chain, 4);
        chain.put(1);
        due.same("the second is far, then the first", chain.widen(), 3);
        due.same("the first is wide", chain.of(0, 1), 1);
        due.same("the second is wide", chain.of(1, 1), 1);
        due.same("d of the first", chain.of(0, 3), 14);
        due.same("d of the second", chain.of(1, 3), 13);
    }

    /** Both are far at once: one round notes both, though the first one made wide would move the second. */
    private static void roundsGoByAddressesAsTheyAre(Due due) {
        SizeForms forms = new SizeForms();
        forms.limit(3, 10);
        Due.labels(forms, 2);
        forms.put(1);
        forms.unit(4, 0, 0);
        Due.plain(forms, 8);
        forms.unit(4, 1, 0);
        forms.put(0);
        due.same("one ahead, one behind", forms.widen(), 3);
        due.same("the first", forms.of(0, 1), 1);
        due.same("the second", forms.of(2, 1), 1);
        due.same("d of the second", forms.of(2, 3), -13);

        SizeForms once = new SizeForms();
        once.limit(3, 10);
        Due.labels(once, 2);
        once.put(1);
        once.unit(4, 0, 0);
        Due.plain(once, 9);
        once.unit(4, 1, 0);
        once.put(0);
        due.same("both in one round", once.widen(), 2);
    }

    /** A wide jump ahead of a choice may take away its zeros, so that a later jump is nearer. */
    private static void paddingMoves(Due due) {
        SizeForms forms = new SizeForms();
        forms.limit(3, 14);
        Due.labels(forms, 2);
        forms.unit(4, 0, 0);
        forms.unit(0, 1, 7);
        int jump = forms.unit(4, 1, 0);
        int choice = forms.choice(1);
        forms.put(1);
        Due.plain(forms, 1);
        forms.put(0);
        due.same("rounds", forms.widen(), 2);
        due.same("the first is wide", forms.of(0, 1), 1);
        due.same("the second stays short", forms.of(jump, 1), 0);
        due.same("address of the choice", forms.of(choice, 0), 9);
        due.same("bytes of the choice", forms.of(choice, 2), 11);
        due.same("d of the second", forms.of(jump, 3), 14);
        due.bytes("the choice", forms, 9, 171, 0, 0, 0, 0, 0, 11, 0, 0, 0, 0, 7);

        SizeForms nearer = new SizeForms();
        nearer.limit(3, 14);
        Due.labels(nearer, 2);
        nearer.unit(4, 0, 0);
        nearer.unit(0, 2, 7);
        int far = nearer.unit(4, 1, 0);
        nearer.choice(1);
        nearer.put(1);
        nearer.put(0);
        due.same("rounds when the second was far at first", nearer.widen(), 2);
        due.same("it stays wide", nearer.of(far, 1), 1);
    }

    private static void againFromShort(Due due) {
        SizeForms forms = jumpOver(4, 18);
        due.same("widen()", forms.widen(), 2);
        due.same("widen() again", forms.widen(), 2);
        forms.limit(3, 21);
        due.same("of", forms.of(0, 1), SizeForms.NOT);
        due.same("it reaches now", forms.widen(), 1);
        due.same("it is short again", forms.of(0, 1), 0);
        forms.limit(3, 5);
        due.same("check widens, too", forms.check(0), 0);
        due.same("it is wide", forms.of(0, 1), 1);
        due.same("widen() behind it", forms.widen(), 2);
    }

    /** Jump i is far only when jump i + 1, which it jumps over, is wide; the last one is far at once. */
    private static void manyRounds(Due due) {
        SizeForms forms = new SizeForms();
        forms.limit(3, 6);
        Due.labels(forms, 40);
        for (int i = 0; i < 40; i++) {
            if (i >= 2) {
                forms.put(i - 2);
            }
            forms.unit(4, i, 0);
        }
        forms.put(38);
        forms.unit(0, 4, 7);
        forms.put(39);
        due.same("rounds", forms.widen(), 41);
        for (int i = 0; i < 40; i++) {
            due.same("form of jump " + i, forms.of(i, 1), 1);
        }
        due.same("bytes", forms.count(8), 204);
    }

    private static void whatIsRefused(Due due) {
        SizeForms forms = new SizeForms();
        forms.unit(0, 5, 9);
        due.same("not widened", forms.of(0, 0), SizeForms.NOT);
        due.same("none such", forms.of(1, 0), SizeForms.BAD);
        due.same("bad what", forms.of(0, 4), SizeForms.BAD);
        forms.widen();
        for (int unit : new int[] {-1, 1, 150, Integer.MIN_VALUE, Integer.MAX_VALUE}) {
            due.same("of(" + unit + ", 0)", forms.of(unit, 0), SizeForms.BAD);
        }
        for (int what : new int[] {-1, 4, Integer.MIN_VALUE, Integer.MAX_VALUE}) {
            due.same("of(0, " + what + ")", forms.of(0, what), SizeForms.BAD);
        }
        due.same("first", forms.out(0), 9);
        due.same("last", forms.out(4), 9);
        for (int i : new int[] {-1, 5, Integer.MIN_VALUE, Integer.MAX_VALUE}) {
            due.thrown("none such", forms, i, Due.NO_SUCH_INDEX);
        }
        forms.unit(0, 5, 9);
        due.thrown("not widened any more", forms, 0, Due.ILLEGAL_STATE);
        due.same("of, not widened any more", forms.of(0, 0), SizeForms.NOT);
    }
}
