import java.util.stream.IntStream;

/** The boundary cases of the pool and of the row (promises 3 to 8), one test for each sentence that names one. */
public final class PoolEdgesTest {
    private static final int NONE = SizeForms.NONE, BAD = SizeForms.BAD, FULL = SizeForms.FULL;
    private static final int LOW = Integer.MIN_VALUE, HIGH = Integer.MAX_VALUE;

    private final Due due = new Due("PoolEdgesTest");

    public static void main(String[] args) {
        PoolEdgesTest test = new PoolEdgesTest();
        test.placesFromOneOn();
        test.oneBehindTheOther();
        test.fourHundredConstants();
        test.moreThanFourHundred();
        test.eachComesOnce();
        test.eachComesOnceInAFullPool();
        test.secondPlaceIsNone();
        test.intOfTheLowestBits();
        test.longOfAllBits();
        test.doubleBits();
        test.sortsOfNumber();
        test.signsFromTo();
        test.sixtySigns();
        test.wipedRow();
        test.bytesOfSigns();
        test.bytesOfSorts();
        test.textOfAnyRow();
        test.textEmptiesTheRow();
        test.textInAFullPool();
        test.sortsOfLink();
        test.nameOfAText();
        test.secondPartOfANameDoesNotCount();
        test.pairOfTwoTexts();
        test.memberOfANameAndAPair();
        test.toldWhat();
        test.toldPlace();
        test.toldParts();
        test.due.end();
    }

    private void placesFromOneOn() {
        Asked a = new Asked(due, "CONSTANTS at PLACES from 1 on");
        a.is(a.told(0, 0), NONE);
        a.is(a.told(1, 0), NONE);
        a.is(a.count(1), 1);
        a.is(a.number(0, 5), 1);
        a.is(a.told(0, 0), NONE);
        a.is(a.told(1, 0), 0);
        a.is(a.told(2, 0), NONE);
        a.is(a.count(1), 2);
    }

    private void oneBehindTheOther() {
        Asked a = new Asked(due, "one behind the other; a LONG, a DOUBLE takes two PLACES, others one");
        a.is(a.number(0, 5), 1);
        a.is(a.count(1), 2);
        a.is(a.number(1, 5), 2);
        a.is(a.count(1), 4);
        a.is(a.number(2, 5), 4);
        a.is(a.count(1), 6);
        a.is(a.text(), 6);
        a.is(a.count(1), 7);
        a.is(a.link(4, 6, 0), 7);
        a.is(a.count(1), 8);
        a.is(a.link(5, 6, 6), 8);
        a.is(a.count(1), 9);
        a.is(a.link(6, 7, 8), 9);
        a.is(a.count(1), 10);
    }

    /** A new constant of a sort, where Made.fullPool's texts, name and pair are, or fewer of them. */
    private static int another(Asked a, int sort) {
        switch (sort) {
            case 3:
                a.sign(99);
                return a.text();
            case 4:
                return a.link(4, 2, 0);
            case 5:
                return a.link(5, 2, 1);
            case 6:
                return a.link(6, 3, 4);
            default:
                return a.number(sort, 1000000);
        }
    }

    private void fourHundredConstants() {
        for (int sort = 0; sort <= 6; sort++) {
            Asked a = new Asked(due, "400 CONSTANTS at most: the 400th, of sort " + sort);
            a.textOf(97);
            a.text();
            a.link(4, 1, 0);
            a.link(5, 1, 2);
            for (int i = 0; i < 395; i++) {
                a.is(a.number(0, i), 5 + i);
            }
            a.is(another(a, sort), 400);
            a.is(a.count(0), 400);
            a.is(a.count(1), sort == 1 || sort == 2 ? 402 : 401);
            a.is(a.told(400, 0), sort);
            a.is(a.number(0, 395), FULL);
            a.is(a.count(0), 400);
        }
    }

    private void moreThanFourHundred() {
        String sentence = "400 CONSTANTS at most: the 401st; FULL";
        for (int sort : new int[] {0, 1, 2}) {
            Twins.unchanged(due, sentence, Made::fullPool, a -> a.number(sort, 1000000), FULL);
        }
        Twins.unchanged(due, sentence, Made::fullPool, Asked::text, FULL);
        Twins.unchanged(due, sentence, Made::fullPool, a -> a.link(4, 2, 0), FULL);
        Twins.unchanged(due, sentence, Made::fullPool, a -> a.link(5, 2, 1), FULL);
        Twins.unchanged(due, sentence, Made::fullPool, a -> a.link(6, 3, 4), FULL);
        Twins.unchanged(due, "BAD: sort", Made::fullPool, a -> a.number(3, 1000000), BAD);
        Twins.unchanged(due, "BAD: there are none such", Made::fullPool, a -> a.link(4, 3, 0), BAD);

        Asked longs = new Asked(due, "400 CONSTANTS at most, in 800 PLACES");
        for (int i = 0; i < 400; i++) {
            longs.is(longs.number(1 + i % 2, i), 1 + 2 * i);
        }
        longs.is(longs.number(1, 400), FULL);
        longs.is(longs.count(1), 801);
        longs.is(longs.told(799, 0), 2);
        longs.is(longs.told(800, 0), NONE);
        longs.is(longs.told(801, 0), NONE);
    }

    private void eachComesOnce() {
        String sentence = "each comes once";
        int[][] links = {{4, Made.TEXT, 0, Made.NAME}, {5, Made.TEXT, Made.EMPTY_TEXT, Made.PAIR},
            {6, Made.NAME, Made.PAIR, Made.MEMBER}};
        Twins.unchanged(due, sentence, a -> a.number(0, 7), Made.INT);
        Twins.unchanged(due, sentence, a -> a.number(1, 7), Made.LONG);
        Twins.unchanged(due, sentence, a -> a.number(2, 7), Made.DOUBLE);
        for (int[] link : links) {
            Twins.unchanged(due, sentence, a -> a.link(link[0], link[1], link[2]), link[3]);
        }
        Asked a = new Asked(due, sentence);
        Made.widened(a);
        a.is(a.textOf(97, 2048), Made.TEXT);
        a.is(a.text(), Made.EMPTY_TEXT);
        a.is(a.count(0), 8);
        a.is(a.count(1), Made.NEXT_PLACE);
        a.is(a.count(2), 5 + 9 + 9 + 7 + 3 + 3 + 5 + 5);
        a.is(a.textOf(97, 2049), Made.NEXT_PLACE);
        a.is(a.textOf(2048, 97), Made.NEXT_PLACE + 1);
        a.is(a.textOf(97), Made.NEXT_PLACE + 2);
        a.is(a.textOf(97, 2048, 0), Made.NEXT_PLACE + 3);
        a.is(a.link(5, Made.EMPTY_TEXT, Made.TEXT), Made.NEXT_PLACE + 4);
    }

    /** It is there: nothing more has to be taken. */
    private void eachComesOnceInAFullPool() {
        Asked a = new Asked(due, "each comes once, in a full pool too");
        Made.fullPool(a);
        a.is(a.number(0, 0), 5);
        a.is(a.number(0, 395), 400);
        a.is(a.link(4, 1, 77), 3);
        a.is(a.link(5, 1, 2), 4);
        a.is(a.textOf(97), 1);
        a.is(a.count(6), 0);
        a.is(a.text(), 2);
        a.is(a.count(0), 400);
    }

    private void secondPlaceIsNone() {
        String sentence = "it is told by the first one; the second is none";
        for (int place : new int[] {Made.LONG, Made.DOUBLE}) {
            Twins.unchanged(due, sentence, a -> a.told(place, 1), 9);
            for (int what = 0; what < 4; what++) {
                int asked = what;
                Twins.unchanged(due, sentence, a -> a.told(place + 1, asked), NONE);
            }
            Twins.unchanged(due, sentence, a -> a.unit(1, place + 1, 0), BAD);
            Twins.unchanged(due, sentence, a -> a.link(4, place + 1, 0), BAD);
        }
    }

    private void intOfTheLowestBits() {
        Asked a = new Asked(due, "An INT (sort 0; the lowest 32 bits)");
        a.is(a.number(0, 0), 1);
        a.is(a.number(0, 1L << 32), 1);
        a.is(a.number(0, Long.MIN_VALUE), 1);
        a.is(a.number(0, 1L << 31), 2);
        a.is(a.number(0, Integer.MIN_VALUE), 2);
        a.is(a.number(0, Integer.MAX_VALUE), 3);
        a.is(a.number(0, Long.MAX_VALUE), 4);
        a.is(a.number(0, -1), 4);
        a.is(a.number(0, 0xffffffffL), 4);
        a.is(a.count(0), 4);
    }

    private void longOfAllBits() {
        Asked a = new Asked(due, "1 LONG (64)");
        long[] bits = {0, 1, 1L << 31, 1L << 32, 1L << 63, Long.MAX_VALUE, -1, 0xffffffffL, Integer.MIN_VALUE};
        for (int i = 0; i < bits.length; i++) {
            a.is(a.number(1, bits[i]), 1 + 2 * i);
        }
        for (int i = 0; i < bits.length; i++) {
            a.is(a.number(1, bits[i]), 1 + 2 * i);
        }
    }

    private void doubleBits() {
        Asked a = new Asked(due, "2 DOUBLE (BITS as Double.doubleToLongBits tells them)");
        a.is(a.number(2, 0x7ff0000000000000L), 1);
        a.is(a.number(2, 0x7ff0000000000001L), 3);
        a.is(a.number(2, 0x7ff7ffffffffffffL), 3);
        a.is(a.number(2, 0x7ff8000000000000L), 3);
        a.is(a.number(2, 0x7ff8000000000001L), 3);
        a.is(a.number(2, 0x7fffffffffffffffL), 3);
        a.is(a.number(2, 0xfff0000000000000L), 5);
        a.is(a.number(2, 0xfff0000000000001L), 3);
        a.is(a.number(2, 0xfff8000000000000L), 3);
        a.is(a.number(2, 0xffffffffffffffffL), 3);
        a.is(a.number(2, 0x7fefffffffffffffL), 7);
        a.is(a.number(2, 0xffefffffffffffffL), 9);
        a.is(a.number(2, 0), 11);
        a.is(a.number(2, 0x8000000000000000L), 13);
        a.is(a.number(2, 1), 15);
        a.is(a.number(1, 0x7ff0000000000001L), 17);
        a.is(a.number(1, 0x7ff8000000000000L), 19);
    }

    private void sortsOfNumber() {
        String sentence = "number: BAD: sort";
        for (int sort : new int[] {LOW, -1, 3, 4, 6, 7, HIGH}) {
            Twins.unchanged(due, sentence, a -> a.number(sort, 7), BAD);
        }
        Asked a = new Asked(due, sentence);
        for (int sort = 0; sort <= 2; sort++) {
            int place = a.number(sort, 7);
            a.is(a.told(place, 0), sort);
        }
    }

    private void signsFromTo() {
        String sentence = "SIGNS (0 .. 65535 each)";
        for (int c : new int[] {LOW, -1, 65536, HIGH}) {
            Twins.unchanged(due, sentence, a -> a.sign(c), BAD);
        }
        Asked a = new Asked(due, sentence);
        a.is(a.sign(0), 1);
        a.is(a.sign(65535), 2);
        a.is(a.sign(-1), BAD);
        a.is(a.sign(65536), BAD);
        a.is(a.text(), 1);
        a.is(a.told(1, 1), 3 + 2 + 3);
        a.is(a.textOf(0, 65535), 1);
    }

    private void sixtySigns() {
        String sentence = "60 at most: FULL";
        Twins.unchanged(due, sentence, Made::fullRow, a -> a.sign(0), FULL);
        Twins.unchanged(due, sentence, Made::fullRow, a -> a.sign(65535), FULL);
        Twins.unchanged(due, "a SIGN that is BAD in a full row", Made::fullRow, a -> a.sign(-1), BAD);
        Twins.unchanged(due, "a SIGN that is BAD in a full row", Made::fullRow, a -> a.sign(65536), BAD);
        Asked a = new Asked(due, sentence);
        for (int i = 1; i <= 60; i++) {
            a.is(a.sign(2048), i);
        }
        a.is(a.sign(1), FULL);
        a.is(a.count(6), 60);
        a.is(a.text(), 1);
        a.is(a.told(1, 1), 183);
        a.is(a.sign(1), 1);

        Asked same = new Asked(due, "60 at most: the SIGNS that are there stay");
        Made.fullRow(same);
        same.is(same.sign(7), FULL);
        same.is(same.sign(65536), BAD);
        same.is(same.text(), 2);
        Made.fullRow(same);
        same.is(same.text(), 2);
        same.is(same.count(0), 2);
    }

    private void wipedRow() {
        String sentence = "THE ROW is empty: how many SIGNS it had";
        Asked a = new Asked(due, sentence);
        a.is(a.wipe(), 0);
        a.sign(5);
        a.is(a.wipe(), 1);
        a.is(a.wipe(), 0);
        a.is(a.count(6), 0);
        a.is(a.sign(6), 1);
        a.is(a.text(), 1);
        a.is(a.told(1, 1), 4);
        a.is(a.textOf(6), 1);
        Asked full = new Asked(due, sentence);
        Made.fullRow(full);
        full.is(full.wipe(), 60);
        full.is(full.count(6), 0);
        full.is(full.sign(5), 1);
    }

    private void bytesOfSigns() {
        int[] signs = {0, 1, 2, 126, 127, 128, 129, 2046, 2047, 2048, 2049, 65534, 65535};
        int[] bytes = {2, 1, 1, 1, 1, 2, 2, 2, 2, 3, 3, 3, 3};
        for (int i = 0; i < signs.length; i++) {
            Asked a = new Asked(due, "1 of 1 .. 127, 2 of 0 and 128 .. 2047, 3 of others: " + signs[i]);
            a.sign(signs[i]);
            a.text();
            a.is(a.told(1, 1), 3 + bytes[i]);
            a.is(a.count(2), 3 + bytes[i]);
        }
        Asked all = new Asked(due, "TEXT 3 and those of its SIGNS");
        all.is(all.textOf(signs), 1);
        all.is(all.told(1, 1), 3 + 26);
    }

    private void bytesOfSorts() {
        Asked a = new Asked(due, "BYTES: INT 5, LONG, DOUBLE 9, NAME 3, PAIR, MEMBER 5, TEXT 3");
        Made.widened(a);
        int[] places = {Made.INT, Made.LONG, Made.DOUBLE, Made.EMPTY_TEXT, Made.NAME, Made.PAIR, Made.MEMBER};
        int[] bytes = {5, 9, 9, 3, 3, 5, 5}, sorts = {0, 1, 2, 3, 4, 5, 6};
        for (int i = 0; i < places.length; i++) {
            a.is(a.told(places[i], 0), sorts[i]);
            a.is(a.told(places[i], 1), bytes[i]);
        }
    }

    private void textOfAnyRow() {
        Asked a = new Asked(due, "A TEXT of THE ROW: of none, of one, of 60 SIGNS");
        a.is(a.text(), 1);
        a.is(a.told(1, 1), 3);
        a.is(a.textOf(7), 2);
        a.is(a.told(2, 1), 4);
        for (int i = 0; i < 60; i++) {
            a.sign(7);
        }
        a.is(a.text(), 3);
        a.is(a.told(3, 1), 63);
        for (int i = 0; i < 59; i++) {
            a.sign(7);
        }
        a.is(a.text(), 4);
        for (int i = 0; i < 59; i++) {
            a.sign(7);
        }
        a.sign(8);
        a.is(a.text(), 5);
        a.is(a.text(), 1);
    }

    private void textEmptiesTheRow() {
        Asked a = new Asked(due, "THE ROW (which is empty then)");
        a.sign(7);
        a.is(a.text(), 1);
        a.is(a.count(6), 0);
        a.is(a.wipe(), 0);
        a.sign(7);
        a.is(a.text(), 1);
        a.is(a.count(6), 0);
        a.is(a.wipe(), 0);
        a.is(a.text(), 2);
        a.is(a.told(2, 1), 3);
    }

    private void textInAFullPool() {
        Asked a = new Asked(due, "text: FULL; what is refused changes nothing: THE ROW stays");
        Made.fullPool(a);
        a.is(a.text(), FULL);
        a.is(a.count(6), 1);
        a.is(a.sign(99), 2);
        a.is(a.text(), FULL);
        a.is(a.wipe(), 2);
        a.is(a.text(), 2);
    }

    private void sortsOfLink() {
        String sentence = "link: BAD: sort";
        for (int sort : new int[] {LOW, -1, 0, 1, 2, 3, 7, HIGH}) {
            Twins.unchanged(due, sentence, a -> a.link(sort, Made.TEXT, Made.TEXT), BAD);
            Twins.unchanged(due, sentence, a -> a.link(sort, Made.NAME, Made.PAIR), BAD);
        }
        Asked a = new Asked(due, sentence);
        Made.widened(a);
        a.is(a.link(4, Made.EMPTY_TEXT, 0), Made.NEXT_PLACE);
        a.is(a.link(5, Made.TEXT, Made.TEXT), Made.NEXT_PLACE + 1);
        a.is(a.link(6, Made.NEXT_PLACE, Made.PAIR), Made.NEXT_PLACE + 2);
    }

    /** All places of Made.widened and those next to them, but for two that are good. */
    private static int[] placesBut(int good, int alsoGood) {
        return IntStream.of(LOW, -1, 0, 1, 2, 3, 4, 5, 6, 7, 8, 9, 10, 11, 12, HIGH)
                .filter(place -> place != good && place != alsoGood).toArray();
    }

    private void nameOfAText() {
        for (int a : placesBut(Made.TEXT, Made.EMPTY_TEXT)) {
            Twins.unchanged(due, "4 NAME of a TEXT: there are none such", x -> x.link(4, a, Made.TEXT), BAD);
        }
    }

    private void secondPartOfANameDoesNotCount() {
        for (int b : placesBut(LOW, LOW)) {
            Twins.unchanged(due, "NAME (sort 4; b does not count)", a -> a.link(4, Made.TEXT, b), Made.NAME);
        }
        Asked a = new Asked(due, "NAME (sort 4; b does not count)");
        a.text();
        a.is(a.link(4, 1, LOW), 2);
        a.is(a.link(4, 1, 1), 2);
        a.is(a.told(2, 3), NONE);
        a.is(a.count(0), 2);
    }

    private void pairOfTwoTexts() {
        String sentence = "5 PAIR of two TEXTS: there are none such";
        for (int place : placesBut(Made.TEXT, Made.EMPTY_TEXT)) {
            Twins.unchanged(due, sentence, a -> a.link(5, place, Made.TEXT), BAD);
            Twins.unchanged(due, sentence, a -> a.link(5, Made.TEXT, place), BAD);
        }
    }

    private void memberOfANameAndAPair() {
        String sentence = "6 MEMBER of a NAME and a PAIR: there are none such";
        for (int place : placesBut(Made.NAME, Made.NAME)) {
            Twins.unchanged(due, sentence, a -> a.link(6, place, Made.PAIR), BAD);
        }
        for (int place : placesBut(Made.PAIR, Made.PAIR)) {
            Twins.unchanged(due, sentence, a -> a.link(6, Made.NAME, place), BAD);
        }
    }

    private void toldWhat() {
        for (int what : new int[] {LOW, -1, 4, HIGH}) {
            Twins.unchanged(due, "told: BAD: what", a -> a.told(Made.MEMBER, what), BAD);
            Twins.unchanged(due, "told: BAD: what, at a PLACE of none", a -> a.told(0, what), BAD);
        }
        int[] told = {6, 5, Made.NAME, Made.PAIR};
        for (int i = 0; i < 4; i++) {
            int what = i;
            Twins.unchanged(due, "told: what = 0 .. 3", a -> a.told(Made.MEMBER, what), told[what]);
        }
    }

    private void toldPlace() {
        String sentence = "told: NONE: there is none at that PLACE";
        for (int place : new int[] {LOW, -1, 0, 3, 5, Made.NEXT_PLACE, Made.NEXT_PLACE + 1, HIGH}) {
            for (int i = 0; i < 4; i++) {
                int what = i;
                Twins.unchanged(due, sentence, a -> a.told(place, what), NONE);
            }
        }
        Twins.unchanged(due, sentence, a -> a.told(1, 0), 0);
        Twins.unchanged(due, sentence, a -> a.told(Made.NEXT_PLACE - 1, 0), 6);
    }

    private void toldParts() {
        Asked a = new Asked(due, "what it is of: a (2), b (3; of a NAME, and others: NONE)");
        Made.widened(a);
        for (int place : new int[] {Made.INT, Made.LONG, Made.DOUBLE, Made.TEXT, Made.EMPTY_TEXT}) {
            a.is(a.told(place, 2), NONE);
            a.is(a.told(place, 3), NONE);
        }
        int[][] links = {{Made.NAME, Made.TEXT, NONE}, {Made.PAIR, Made.TEXT, Made.EMPTY_TEXT},
            {Made.MEMBER, Made.NAME, Made.PAIR}};
        for (int[] link : links) {
            a.is(a.told(link[0], 2), link[1]);
            a.is(a.told(link[0], 3), link[2]);
        }
    }
}
