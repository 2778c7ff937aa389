import java.util.function.Consumer;
import java.util.function.ToIntFunction;

/** The boundary cases of widening and of the bytes (promises 14 to 16), one test for each sentence that names one. */
public final class WidenEdgesTest {
    private static final int NONE = SizeForms.NONE, BAD = SizeForms.BAD, FULL = SizeForms.FULL, NOT = SizeForms.NOT;
    private static final int LOW = Integer.MIN_VALUE, HIGH = Integer.MAX_VALUE;
    private static final int GO = 4, IF = 5;

    private final Due due = new Due("WidenEdgesTest");

    public static void main(String[] args) {
        WidenEdgesTest test = new WidenEdgesTest();
        test.noUnit();
        test.looseLabelIsNotNow();
        test.everyUseOfALabel();
        test.labelsThatAreNotUsed();
        test.aboveReach();
        test.belowReach();
        test.leastReach();
        test.greatestReach();
        test.bytesOfGo();
        test.bytesOfIf();
        test.choicesDoNotWiden();
        test.addressesAsTheyAre();
        test.untilOneNotesNone();
        test.wideStaysWide();
        test.shortAtFirst();
        test.widenedAgain();
        test.notWidenedAheadOfThat();
        test.notWidenedSince();
        test.stillWidened();
        test.ofSuchUnit();
        test.ofWhat();
        test.ofCodeThatIsNotWidened();
        test.distanceMayBeAnyNumber();
        test.distanceOfOtherSorts();
        test.outOfCodeThatIsNotWidened();
        test.outOfNoSuchByte();
        test.outOfNoByteAtAll();
        test.due.end();
    }

    private void noUnit() {
        Asked a = new Asked(due, "how many ROUNDS, the one that notes none, too: of no UNIT");
        a.is(a.widen(), 1);
        a.is(a.count(8), 0);
        a.is(a.widen(), 1);
        a.label();
        a.put(0);
        a.is(a.count(8), NOT);
        a.is(a.widen(), 1);
        a.is(a.count(8), 0);
    }

    private void looseLabelIsNotNow() {
        String sentence = "widen: NOT: a LABEL that is used is not PUT";
        Twins.unchanged(due, sentence, Made::loose, Asked::widen, NOT);
        Asked a = new Asked(due, sentence);
        Made.loose(a);
        a.is(a.widen(), NOT);
        a.is(a.count(8), NOT);
        a.is(a.put(3), 9);
        a.is(a.widen(), 2);
        a.is(a.unit(IF, 0, 5), 9);
        a.is(a.widen(), NOT);
        a.is(a.count(8), NOT);
        a.is(a.put(5), 10);
        a.is(a.widen(), 2);
    }

    private void everyUseOfALabel() {
        useOfALabel("GO", a -> a.unit(GO, 1, 0));
        useOfALabel("IF", a -> a.unit(IF, 3, 1));
        useOfALabel("a CHOICE for all others", a -> a.choice(1));
        useOfALabel("a KEY of a CHOICE", a -> {
            a.key(4, 0);
            a.key(5, 1);
            a.key(6, 0);
            a.choice(0);
        });
    }

    private void useOfALabel(String use, Consumer<Asked> unit) {
        Asked a = new Asked(due, "a LABEL that is used is not PUT: by " + use);
        a.labels(3);
        a.put(0);
        unit.accept(a);
        a.is(a.widen(), NOT);
        a.is(a.check(0), 3);
        a.is(a.check(1), 1);
        a.is(a.put(1), 1);
        a.is(a.widen(), 1);
    }

    /** Keys that wait are not in the code yet, so that their labels are not used by it. */
    private void labelsThatAreNotUsed() {
        Asked a = new Asked(due, "a LABEL that is not used may be not PUT");
        a.labels(40);
        a.put(0);
        a.is(a.unit(GO, 0, 0), 0);
        a.is(a.widen(), 1);
        a.is(a.key(1, 39), 1);
        a.is(a.widen(), 1);
        a.is(a.check(0), 0);
        a.is(a.choice(0), 1);
        a.is(a.widen(), NOT);
        a.is(a.check(1), 39);
    }

    /** A jump ahead over so many bytes: d is 3 more than they are while it is short. */
    private Asked ahead(String sentence, int sort, int reach, int bytes) {
        Asked a = new Asked(due, sentence + ": " + bytes + " bytes ahead, REACH " + reach);
        a.limit(3, reach);
        a.label();
        a.unit(sort, 0, 0);
        a.plain(bytes);
        a.put(0);
        return a;
    }

    /** A jump back over so many bytes: d is as many below 0, whatever its form. */
    private Asked back(String sentence, int sort, int reach, int bytes) {
        Asked a = new Asked(due, sentence + ": " + bytes + " bytes back, REACH " + reach);
        a.limit(3, reach);
        a.label();
        a.put(0);
        a.plain(bytes);
        a.unit(sort, 0, 0);
        return a;
    }

    private static void widensTo(Asked a, int unit, int form, int bytes, int distance) {
        a.is(a.widen(), form + 1);
        a.is(a.of(unit, 1), form);
        a.is(a.of(unit, 2), bytes);
        a.is(a.of(unit, 3), distance);
    }

    private void aboveReach() {
        String sentence = "each short one whose d is above REACH";
        for (int reach : new int[] {4, 100, 127, 128, 255, 256, 1000, 20000}) {
            widensTo(ahead(sentence, GO, reach, reach - 4), 0, 0, 3, reach - 1);
            widensTo(ahead(sentence, GO, reach, reach - 3), 0, 0, 3, reach);
            widensTo(ahead(sentence, GO, reach, reach - 2), 0, 1, 5, reach + 3);
            widensTo(ahead(sentence, IF, reach, reach - 3), 0, 0, 3, reach);
            widensTo(ahead(sentence, IF, reach, reach - 2), 0, 1, 8, reach + 6);
        }
    }

    private static int plains(int bytes) {
        return (bytes + 199) / 200;
    }

    private void belowReach() {
        String sentence = "each short one whose d is below - REACH - 1";
        for (int reach : new int[] {1, 100, 127, 128, 254, 255, 256, 1000, 20000}) {
            int unit = plains(reach + 1), next = plains(reach + 2);
            widensTo(back(sentence, GO, reach, reach + 1), unit, 0, 3, -reach - 1);
            widensTo(back(sentence, GO, reach, reach + 2), next, 1, 5, -reach - 2);
            widensTo(back(sentence, IF, reach, reach + 1), unit, 0, 3, -reach - 1);
            widensTo(back(sentence, IF, reach, reach + 2), next, 1, 8, -reach - 2);
        }
    }

    private void leastReach() {
        String sentence = "REACH (1 .. 32767): the least one";
        widensTo(back(sentence, GO, 1, 0), 0, 0, 3, 0);
        widensTo(back(sentence, GO, 1, 1), 1, 0, 3, -1);
        widensTo(back(sentence, GO, 1, 2), 1, 0, 3, -2);
        widensTo(back(sentence, GO, 1, 3), 1, 1, 5, -3);
        widensTo(ahead(sentence, GO, 1, 0), 0, 1, 5, 5);
        widensTo(ahead(sentence, IF, 1, 0), 0, 1, 8, 8);
        widensTo(ahead(sentence, GO, 2, 0), 0, 1, 5, 5);
        widensTo(ahead(sentence, GO, 3, 0), 0, 0, 3, 3);
    }

    /** The longest code has fewer bytes than the greatest reach. */
    private void greatestReach() {
        String sentence = "REACH is the greatest at first: every jump reaches";
        Asked ahead = ahead(sentence, GO, 32767, 149 * 200);
        widensTo(ahead, 0, 0, 3, 29803);
        ahead.unitIs(0, 167, 29803 >> 8, 29803 & 255);
        ahead.is(ahead.count(8), 29803);
        ahead.is(ahead.check(0), 0);
        Asked back = back(sentence, IF, 32767, 149 * 200);
        widensTo(back, 149, 0, 3, -29800);
        back.unitIs(149, 153, -29800 >> 8 & 255, -29800 & 255);
        back.is(back.limit(3, 29799), 32767);
        widensTo(back, 149, 0, 3, -29800);
        back.is(back.limit(3, 29798), 29799);
        widensTo(back, 149, 1, 8, -29800);
        back.unitIs(149, 154, 0, 8, 200, 255, 255, -29803 >> 8 & 255, -29803 & 255);
    }

    private void bytesOfGo() {
        String sentence = "GO l: short: 167, d in 2; wide: 200, d in 4";
        int[][] distances = {{0, 0, 0}, {1, 255, 255}, {255, 255, 1}, {256, 255, 0}, {257, 254, 255}};
        for (int[] d : distances) {
            Asked a = back(sentence, GO, 32767, d[0]);
            a.is(a.widen(), 1);
            a.unitIs(plains(d[0]), 167, d[1], d[2]);
        }
        Asked a = ahead(sentence, GO, 32767, 253);
        a.is(a.widen(), 1);
        a.unitIs(0, 167, 1, 0);
        a.limit(3, 255);
        a.is(a.widen(), 2);
        a.unitIs(0, 200, 0, 0, 1, 2);
        Asked far = back(sentence, GO, 255, 257);
        far.is(far.widen(), 2);
        far.unitIs(2, 200, 255, 255, 254, 255);
    }

    private void bytesOfIf() {
        String sentence = "IF: the other one of 153 and c, 8 in 2, 200, e in 4; e is d less 3";
        int[] others = {154, 153, 156, 155, 158, 157};
        for (int c = 0; c <= 5; c++) {
            Asked a = new Asked(due, sentence);
            a.limit(3, 2);
            a.labels(2);
            a.put(0);
            a.plain(4);
            a.unit(IF, c, 0);
            a.unit(IF, c, 1);
            a.put(1);
            a.is(a.widen(), 2);
            a.unitIs(1, others[c], 0, 8, 200, 255, 255, 255, 249);
            a.unitIs(2, others[c], 0, 8, 200, 0, 0, 0, 5);
            a.is(a.of(1, 3), -4);
            a.is(a.of(2, 3), 8);
        }
    }

    private void choicesDoNotWiden() {
        Asked a = new Asked(due, "all GO, IF: others have one form, however far their LABEL is");
        a.limit(3, 1);
        a.label();
        a.put(0);
        a.plain(200);
        a.key(1, 0);
        a.is(a.choice(0), 1);
        a.is(a.widen(), 1);
        a.is(a.of(1, 1), 0);
        a.is(a.of(1, 3), -200);
    }

    /** The first jump made wide would move the second too far within the round, if addresses were not as they are. */
    private void addressesAsTheyAre() {
        Asked two = new Asked(due, "A ROUND: by the ADDRESSES as they are");
        two.limit(3, 10);
        two.labels(2);
        two.put(1);
        two.unit(GO, 0, 0);
        two.plain(8);
        two.unit(GO, 1, 0);
        two.put(0);
        two.is(two.widen(), 3);
        two.is(two.of(0, 1), 1);
        two.is(two.of(2, 1), 1);

        Asked once = new Asked(due, "then all that are noted are wide");
        once.limit(3, 10);
        once.labels(2);
        once.put(1);
        once.unit(GO, 0, 0);
        once.plain(9);
        once.unit(GO, 1, 0);
        once.put(0);
        once.is(once.widen(), 2);
        once.is(once.of(0, 1), 1);
        once.is(once.of(2, 1), 1);
    }

    /** Jump i goes over jump i + 1: each round makes one of them wide, from the last one to the first. */
    private void untilOneNotesNone() {
        for (int jumps = 1; jumps <= 40; jumps++) {
            Asked a = new Asked(due, "ROUNDS are done until one notes none: " + jumps + " behind each other");
            a.limit(3, 6);
            a.labels(jumps);
            for (int i = 0; i < jumps; i++) {
                if (i >= 2) {
                    a.put(i - 2);
                }
                a.unit(GO, i, 0);
            }
            if (jumps >= 2) {
                a.put(jumps - 2);
            }
            a.plain(4);
            a.put(jumps - 1);
            a.is(a.widen(), jumps + 1);
            a.is(a.count(8), 5 * jumps + 4);
        }
        mostRounds();
    }

    /** All 150 units are jumps, of which there are at most 40 labels to go to. */
    private void mostRounds() {
        Asked a = new Asked(due, "ROUNDS are done until one notes none: 150 jumps");
        a.limit(3, 1);
        a.labels(1);
        for (int i = 0; i < 150; i++) {
            a.unit(i % 2 == 0 ? GO : IF, 0, 0);
        }
        a.put(0);
        a.is(a.widen(), 2);
        a.is(a.count(8), 75 * 5 + 75 * 8);
        a.is(a.out(974), 5);
        a.is(a.out(975), Due.NO_SUCH_INDEX);
    }

    /** The choice behind the first jump needs fewer zeros when that is wide: the second jump would reach then. */
    private void wideStaysWide() {
        Asked a = new Asked(due, "each short one is noted: one that is wide is not short again, though it would reach");
        a.limit(3, 14);
        a.labels(2);
        a.unit(GO, 0, 0);
        a.unit(0, 2, 7);
        int second = a.unit(GO, 1, 0);
        a.choice(1);
        a.put(1);
        a.put(0);
        a.is(a.widen(), 2);
        a.is(a.of(0, 1), 1);
        a.is(a.of(second, 1), 1);
        a.is(a.of(second, 2), 5);
    }

    private void shortAtFirst() {
        Asked a = ahead("WIDENED: all GO, IF are short at first", GO, 20, 18);
        a.is(a.widen(), 2);
        a.is(a.of(0, 1), 1);
        a.is(a.limit(3, 21), 20);
        a.is(a.widen(), 1);
        a.is(a.of(0, 1), 0);
        a.is(a.count(8), 21);
        a.is(a.limit(3, 20), 21);
        a.is(a.check(0), 0);
        a.is(a.of(0, 1), 1);
        a.is(a.count(8), 23);
    }

    private void widenedAgain() {
        String sentence = "WIDENED, once more: it is what it is";
        Twins.unchanged(due, sentence, Made::widened, Asked::widen, 2);
        Twins.unchanged(due, sentence, Made::fullCode, Asked::widen, 1);
        Twins.changesNothing(due, sentence, Made::widened, a -> a.check(0));
        Twins.changesNothing(due, sentence, Made::widened, a -> a.check(1));
    }

    private void notWidenedAheadOfThat() {
        Asked a = new Asked(due, "Ahead of that CODE is not WIDENED");
        a.is(a.count(8), NOT);
        a.is(a.out(0), Due.ILLEGAL_STATE);
        a.unit(0, 1, 0);
        a.is(a.count(8), NOT);
        a.is(a.of(0, 0), NOT);
        a.is(a.out(0), Due.ILLEGAL_STATE);
        a.is(a.widen(), 1);
        a.is(a.count(8), 1);
    }

    private void notWidenedSince() {
        since("a UNIT came", a -> a.unit(0, 1, 1));
        since("a UNIT came", a -> a.unit(1, Made.INT, 0));
        since("a UNIT came", a -> a.unit(2, 0, 0));
        since("a UNIT came", a -> a.unit(3, 0, 0));
        since("a UNIT came", a -> a.unit(GO, 0, 0));
        since("a UNIT came", a -> a.unit(IF, 0, 0));
        since("a UNIT came: a CHOICE", a -> a.choice(0));
        since("a PUT came: of a LABEL that is not used", a -> a.put(3));
        since("REACH: CODE is not WIDENED any more", a -> a.limit(3, 61));
        since("REACH: CODE is not WIDENED any more: as it was", a -> a.limit(3, 60));
    }

    private void since(String what, ToIntFunction<Asked> call) {
        Asked a = new Asked(due, "when a UNIT or a PUT came since, CODE is not WIDENED: " + what);
        Made.widened(a);
        a.is(a.count(8) > 0 ? 1 : 0, 1);
        a.is(call.applyAsInt(a) >= 0 ? 1 : 0, 1);
        a.is(a.count(8), NOT);
        a.is(a.of(0, 0), NOT);
        a.is(a.out(0), Due.ILLEGAL_STATE);
        a.is(a.widen(), 2);
        a.is(a.of(0, 0), 0);
        a.is(a.out(0), 9);
    }

    /** No other call makes it not widened: what is refused, what asks, and what is no part of the code. */
    private void stillWidened() {
        Asked a = new Asked(due, "when a UNIT or a PUT came since: nothing else");
        Made.widened(a);
        int bytes = a.count(8);
        for (int what : new int[] {0, 1, 2, 4, 5}) {
            a.limit(what, 255);
            a.is(a.count(8), bytes);
        }
        a.number(0, 12345);
        a.number(1, 12345);
        a.number(2, 12345);
        a.text();
        a.link(4, Made.EMPTY_TEXT, 0);
        a.is(a.count(8), bytes);
        a.sign(5);
        a.wipe();
        a.label();
        a.key(99, 3);
        a.member(true, 1, 1);
        a.is(a.count(8), bytes);
        a.unit(6, 0, 0);
        a.put(0);
        a.limit(3, 0);
        a.choice(99);
        a.is(a.count(8), bytes);
        a.is(a.out(bytes - 1), 29);
    }

    private void ofSuchUnit() {
        String sentence = "of: BAD: none such";
        for (int what = 0; what < 4; what++) {
            int asked = what;
            for (int unit : new int[] {LOW, -1, 8, 149, 150, HIGH}) {
                Twins.unchanged(due, sentence, Made::widened, a -> a.of(unit, asked), BAD);
            }
            Twins.unchanged(due, sentence, Made::loose, a -> a.of(9, asked), BAD);
            Twins.unchanged(due, sentence, Made::nothing, a -> a.of(0, asked), BAD);
            Twins.unchanged(due, sentence, Made::fullCode, a -> a.of(150, asked), BAD);
        }
        Asked a = new Asked(due, sentence);
        Made.fullCode(a);
        a.is(a.of(0, 0), 0);
        a.is(a.of(149, 0), 149);
        a.is(a.of(150, 0), BAD);
    }

    private void ofWhat() {
        for (int what : new int[] {LOW, -1, 4, HIGH}) {
            Twins.unchanged(due, "of: BAD: what", a -> a.of(0, what), BAD);
            Twins.unchanged(due, "of: BAD: what, of the last UNIT", a -> a.of(7, what), BAD);
        }
        int[] told = {70 + 2 + 4 + 3 + 3, 1, 8, -82};
        for (int i = 0; i < 4; i++) {
            int what = i;
            Twins.unchanged(due, "of: what = 0 .. 3", Made::widened, a -> a.of(5, what), told[what]);
        }
    }

    private void ofCodeThatIsNotWidened() {
        for (int i = 0; i < 4; i++) {
            int what = i;
            Twins.unchanged(due, "of: NOT: it is not WIDENED", Made::loose, a -> a.of(0, what), NOT);
            Twins.unchanged(due, "of: NOT: it is not WIDENED", Made::loose, a -> a.of(8, what), NOT);
        }
    }

    /** Below 0 it looks like an answer that refuses, but is none. */
    private void distanceMayBeAnyNumber() {
        for (int bytes = 0; bytes <= 5; bytes++) {
            Asked a = back("(d may be any number.)", GO, 32767, bytes);
            a.is(a.choice(0), plains(bytes) + 1);
            a.is(a.widen(), 1);
            a.is(a.of(plains(bytes), 3), -bytes);
            a.is(a.of(plains(bytes) + 1, 3), -bytes - 3);
        }
        Asked a = back("(d may be any number.)", GO, 1, 1);
        a.put(0);
        a.is(a.widen(), 1);
        a.is(a.of(1, 3), -1);
    }

    private void distanceOfOtherSorts() {
        Asked a = new Asked(due, "d (3; of a CHOICE to the LABEL for all others; of other SORTS NONE)");
        Made.widened(a);
        int choice = 70 + 2 + 4 + 3 + 3 + 8;
        int end = choice + 2 + 24;
        int[] distances = {NONE, NONE, NONE, NONE, end - 79, -82, end - choice, NONE};
        for (int unit = 0; unit < distances.length; unit++) {
            a.is(a.of(unit, 3), distances[unit]);
        }
    }

    private void outOfCodeThatIsNotWidened() {
        String sentence = "out: IllegalStateException: it is not WIDENED";
        for (int i : new int[] {LOW, -1, 0, 1, 30000, HIGH}) {
            Twins.unchanged(due, sentence, Made::loose, a -> a.out(i), Due.ILLEGAL_STATE);
            Twins.unchanged(due, sentence, Made::nothing, a -> a.out(i), Due.ILLEGAL_STATE);
        }
    }

    private void outOfNoSuchByte() {
        String sentence = "out: ArrayIndexOutOfBoundsException: there is none";
        Asked a = new Asked(due, sentence);
        Made.widened(a);
        int bytes = a.count(8);
        a.is(a.out(0), 9);
        a.is(a.out(bytes - 1), 29);
        for (int i : new int[] {LOW, -1, bytes, bytes + 1, HIGH}) {
            Twins.unchanged(due, sentence, Made::widened, x -> x.out(i), Due.NO_SUCH_INDEX);
        }
        Asked longest = new Asked(due, sentence);
        for (int i = 0; i < 150; i++) {
            longest.unit(0, 200, i);
        }
        longest.is(longest.unit(0, 200, 150), FULL);
        longest.is(longest.widen(), 1);
        longest.is(longest.out(199), 0);
        longest.is(longest.out(200), 1);
        longest.is(longest.out(29799), 148);
        longest.is(longest.out(29800), 149);
        longest.is(longest.out(29999), 149);
        longest.is(longest.out(30000), Due.NO_SUCH_INDEX);
    }

    private void outOfNoByteAtAll() {
        Asked a = new Asked(due, "out of CODE that is WIDENED and has no byte");
        a.is(a.widen(), 1);
        for (int i : new int[] {LOW, -1, 0, 1, HIGH}) {
            a.is(a.out(i), Due.NO_SUCH_INDEX);
        }
        a.is(a.count(8), 0);
    }
}
