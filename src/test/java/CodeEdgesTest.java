import java.util.Arrays;
import java.util.function.IntFunction;
import java.util.function.ToIntFunction;

/** The boundary cases of units, labels and choices (promises 9 to 13), one test for each sentence that names one. */
public final class CodeEdgesTest {
    private static final int NONE = SizeForms.NONE, BAD = SizeForms.BAD, FULL = SizeForms.FULL, NOT = SizeForms.NOT;
    private static final int LOW = Integer.MIN_VALUE, HIGH = Integer.MAX_VALUE;

    private final Due due = new Due("CodeEdgesTest");

    public static void main(String[] args) {
        CodeEdgesTest test = new CodeEdgesTest();
        test.fortyLabels();
        test.putSuchLabel();
        test.putOnce();
        test.putAheadOfAUnitOrTheEnd();
        test.unitsFromZeroOn();
        test.hundredFiftyUnits();
        test.moreThanHundredFifty();
        test.sortsOfUnit();
        test.timesOfPlain();
        test.valueOfPlain();
        test.placeOfLoad();
        test.formOfLoad();
        test.localOfTake();
        test.formOfTake();
        test.localOfRaise();
        test.stepOfRaise();
        test.formOfRaise();
        test.labelOfGo();
        test.conditionOfIf();
        test.labelOfIf();
        test.whatDoesNotCount();
        test.keysRise();
        test.labelOfKey();
        test.twentyKeys();
        test.labelOfChoice();
        test.choiceTakesTheKeys();
        test.choiceInFullCode();
        test.tableOrList();
        test.tableOrListOfKeysFarApart();
        test.choiceOfNoKey();
        test.zerosToAMultipleOfFour();
        test.numbersOfNoKey();
        test.keysInFourBytes();
        test.due.end();
    }

    /** The call is BAD for each of the values, and changes nothing. */
    private void bad(String sentence, IntFunction<ToIntFunction<Asked>> call, int... values) {
        for (int value : values) {
            Twins.unchanged(due, sentence, call.apply(value), BAD);
        }
    }

    private void fortyLabels() {
        String sentence = "LABELS, 40 at most, numbered from 0";
        Twins.unchanged(due, sentence, Made::fullLabels, Asked::label, FULL);
        Asked a = new Asked(due, sentence);
        for (int i = 0; i < 40; i++) {
            a.is(a.label(), i);
            a.is(a.count(4), i + 1);
        }
        a.is(a.label(), FULL);
        a.is(a.count(4), 40);
        a.is(a.put(40), BAD);
        a.is(a.put(39), 0);
        a.is(a.put(0), 0);
    }

    private void putSuchLabel() {
        String sentence = "put: BAD: none such";
        bad(sentence, label -> a -> a.put(label), LOW, -1, Made.LABELS, 39, 40, HIGH);
        Twins.unchanged(due, sentence, Made::fullLabels, a -> a.put(40), BAD);
        Twins.unchanged(due, sentence, Made::nothing, a -> a.put(0), BAD);
        Asked a = new Asked(due, sentence);
        Made.widened(a);
        a.is(a.put(Made.LABELS - 1), 8);
        a.is(a.put(Made.LABELS), BAD);
    }

    private void putOnce() {
        String sentence = "each PUT once; NOT: it is PUT";
        for (int i = 0; i <= Made.PUT_LABEL; i++) {
            int label = i;
            Twins.unchanged(due, sentence, a -> a.put(label), NOT);
        }
        Twins.unchanged(due, sentence, Made::fullLabels, a -> a.put(39), NOT);
        Twins.unchanged(due, sentence, Made::fullCode, a -> a.put(1), NOT);
        Asked a = new Asked(due, sentence);
        a.label();
        a.is(a.put(0), 0);
        a.is(a.put(0), NOT);
        a.unit(4, 0, 0);
        a.is(a.put(0), NOT);
        a.widen();
        a.is(a.of(0, 3), 0);
    }

    private void putAheadOfAUnitOrTheEnd() {
        Asked a = new Asked(due, "PUT ahead of a UNIT (or the end): that one's number");
        a.labels(5);
        a.is(a.put(0), 0);
        a.is(a.put(4), 0);
        for (int label = 0; label < 5; label++) {
            a.is(a.unit(4, label, 0), label);
        }
        a.is(a.put(1), 5);
        for (int i = 5; i < 149; i++) {
            a.unit(0, 1, 0);
        }
        a.is(a.put(2), 149);
        a.is(a.unit(0, 10, 0), 149);
        a.is(a.put(3), 150);
        a.is(a.widen(), 1);
        int[] distances = {0, 15 - 3, 159 - 6, 169 - 9, -12};
        for (int label = 0; label < 5; label++) {
            a.is(a.of(label, 3), distances[label]);
        }
    }

    private void unitsFromZeroOn() {
        Asked a = new Asked(due, "UNITS, numbered from 0, one behind the other; ADDRESS: how many bytes are ahead");
        a.label();
        a.put(0);
        a.is(a.unit(0, 200, 1), 0);
        a.is(a.unit(2, 0, 0), 1);
        a.is(a.choice(0), 2);
        a.is(a.unit(5, 0, 0), 3);
        a.is(a.count(3), 4);
        a.is(a.widen(), 1);
        int[] addresses = {0, 200, 201, 212};
        for (int i = 0; i < addresses.length; i++) {
            a.is(a.of(i, 0), addresses[i]);
        }
        a.is(a.count(8), 215);
    }

    /** A unit of any sort, where there is an int at place 1 and a label. */
    private static int another(Asked a, int sort) {
        return sort == 6 ? a.choice(0) : a.unit(sort, 1 - sort / 4, 0);
    }

    private void hundredFiftyUnits() {
        for (int sort = 0; sort <= 6; sort++) {
            Asked a = new Asked(due, "UNITS, 150 at most: the 150th, of sort " + sort);
            a.number(0, 7);
            a.label();
            a.put(0);
            for (int i = 0; i < 149; i++) {
                a.is(a.unit(0, 1, 3), i);
            }
            a.is(another(a, sort), 149);
            a.is(a.count(3), 150);
            a.is(a.unit(0, 1, 3), FULL);
            a.is(a.count(3), 150);
            a.is(a.widen(), 1);
            a.is(a.of(149, 0), 149);
            a.is(a.of(150, 0), BAD);
        }
    }

    private void moreThanHundredFifty() {
        for (int i = 0; i <= 5; i++) {
            int sort = i;
            Twins.unchanged(due, "UNITS, 150 at most: FULL", Made::fullCode, a -> another(a, sort), FULL);
        }
        Twins.unchanged(due, "FULL: a LABEL is not used by what is refused", Made::fullCode, a -> a.unit(4, 2, 0), FULL);
        Twins.unchanged(due, "FULL: a LABEL is not used by what is refused", Made::fullCode, a -> a.unit(5, 0, 2), FULL);
        Twins.unchanged(due, "FULL: LOCALS stay", Made::fullCode, a -> a.unit(2, 65535, 0), FULL);
        Twins.unchanged(due, "BAD, in full code", Made::fullCode, a -> a.unit(0, 0, 0), BAD);
        Twins.unchanged(due, "BAD, in full code", Made::fullCode, a -> a.unit(6, 0, 0), BAD);
    }

    private void sortsOfUnit() {
        bad("A UNIT of SORTS 0 to 5: BAD: sort", sort -> a -> a.unit(sort, 1, 1), LOW, -1, 6, 7, HIGH);
        bad("A UNIT of SORTS 0 to 5: BAD: sort", sort -> a -> a.unit(sort, 0, 0), LOW, -1, 6, 7, HIGH);
        for (int sort = 0; sort <= 5; sort++) {
            Asked a = new Asked(due, "A UNIT of SORTS 0 to 5");
            a.number(0, 7);
            a.label();
            a.is(another(a, sort), 0);
        }
    }

    private void timesOfPlain() {
        String sentence = "n of PLAIN not 1 .. 200";
        bad(sentence, n -> a -> a.unit(0, n, 0), LOW, -1, 0, 201, 256, HIGH);
        Asked a = new Asked(due, sentence);
        a.is(a.unit(0, 1, 9), 0);
        a.is(a.unit(0, 200, 8), 1);
        a.is(a.widen(), 1);
        a.is(a.of(0, 2), 1);
        a.is(a.of(1, 2), 200);
        a.is(a.of(0, 1), 0);
        a.is(a.of(1, 1), 0);
        a.bytesAre(0, 9, 8, 8);
        a.bytesAre(200, 8, Due.NO_SUCH_INDEX);
    }

    private void valueOfPlain() {
        String sentence = "b not 0 .. 255";
        bad(sentence, b -> a -> a.unit(0, 1, b), LOW, -1, 256, HIGH);
        Asked a = new Asked(due, sentence);
        int[] values = {0, 1, 127, 128, 254, 255};
        for (int i = 0; i < values.length; i++) {
            a.is(a.unit(0, 2, values[i]), i);
        }
        a.is(a.widen(), 1);
        for (int i = 0; i < values.length; i++) {
            a.unitIs(i, values[i], values[i]);
        }
    }

    private void placeOfLoad() {
        String sentence = "LOAD p, an INT, LONG or DOUBLE of THE POOL; BAD: p";
        bad(sentence, p -> a -> a.unit(1, p, 0), LOW, -1, 0, Made.LONG + 1, Made.DOUBLE + 1, Made.TEXT,
                Made.EMPTY_TEXT, Made.NAME, Made.PAIR, Made.MEMBER, Made.NEXT_PLACE, HIGH);
        Twins.unchanged(due, sentence, Made::nothing, a -> a.unit(1, 1, 0), BAD);
        Asked a = new Asked(due, sentence);
        Made.widened(a);
        a.is(a.unit(1, Made.INT, 0), 8);
        a.is(a.unit(1, Made.LONG, 0), 9);
        a.is(a.unit(1, Made.DOUBLE, 0), 10);
        a.is(a.widen(), 2);
        a.unitIs(8, 18, Made.INT);
        a.unitIs(9, 20, 0, Made.LONG);
        a.unitIs(10, 20, 0, Made.DOUBLE);
    }

    private void formOfLoad() {
        Asked a = new Asked(due, "LOAD: of an INT with p up to 255: 18, p; above: 19, p in 2 bytes; of others 20");
        for (int i = 1; i <= 256; i++) {
            a.number(0, i);
        }
        a.number(1, 0);
        a.number(2, 0);
        a.number(0, 0);
        int[][] loads = {{1, 18, 1}, {255, 18, 255}, {256, 19, 1, 0}, {257, 20, 1, 1}, {259, 20, 1, 3}, {261, 19, 1, 5}};
        int[] forms = {0, 0, 1, 0, 0, 1};
        for (int[] load : loads) {
            a.unit(1, load[0], 0);
        }
        a.is(a.widen(), 1);
        for (int i = 0; i < loads.length; i++) {
            a.unitIs(i, Arrays.copyOfRange(loads[i], 1, loads[i].length));
            a.is(a.of(i, 1), forms[i]);
            a.is(a.of(i, 3), NONE);
        }
        for (int sort = 1; sort <= 2; sort++) {
            formOfLoadOfTwoPlaces(sort);
        }
    }

    /** It stands in 2 bytes even where one would do. */
    private void formOfLoadOfTwoPlaces(int sort) {
        Asked a = new Asked(due, "LOAD of others 20, p in 2 bytes: sort " + sort);
        a.number(sort, 0);
        for (int i = 3; i < 255; i++) {
            a.number(0, i);
        }
        a.is(a.number(sort, 1), 255);
        a.unit(1, 1, 0);
        a.unit(1, 255, 0);
        a.is(a.widen(), 1);
        a.unitIs(0, 20, 0, 1);
        a.unitIs(1, 20, 0, 255);
        a.is(a.of(0, 1), 0);
        a.is(a.of(1, 1), 0);
    }

    private void localOfTake() {
        String sentence = "TAKE: k not 0 .. 65535";
        bad(sentence, k -> a -> a.unit(2, k, 0), LOW, -1, 65536, HIGH);
        Asked a = new Asked(due, sentence);
        a.is(a.unit(2, 0, 0), 0);
        a.is(a.count(9), 1);
        a.is(a.unit(2, 65535, 0), 1);
        a.is(a.count(9), 65536);
        a.is(a.unit(2, 65536, 0), BAD);
        a.is(a.count(9), 65536);
    }

    private void formOfTake() {
        Asked a = new Asked(due, "TAKE k: k up to 3: 26 and k; up to 255: 21, k; above: 196, 21, k in 2");
        int[] locals = {0, 3, 4, 255, 256, 65535};
        for (int local : locals) {
            a.unit(2, local, 0);
        }
        a.is(a.widen(), 1);
        a.unitIs(0, 26);
        a.unitIs(1, 29);
        a.unitIs(2, 21, 4);
        a.unitIs(3, 21, 255);
        a.unitIs(4, 196, 21, 1, 0);
        a.unitIs(5, 196, 21, 255, 255);
        for (int i = 0; i < locals.length; i++) {
            a.is(a.of(i, 1), i < 4 ? 0 : 1);
            a.is(a.of(i, 3), NONE);
        }
    }

    private void localOfRaise() {
        String sentence = "RAISE: k not 0 .. 65535";
        bad(sentence, k -> a -> a.unit(3, k, 0), LOW, -1, 65536, HIGH);
        Asked a = new Asked(due, sentence);
        a.is(a.unit(3, 0, 0), 0);
        a.is(a.count(9), 1);
        a.is(a.unit(3, 65535, 0), 1);
        a.is(a.count(9), 65536);
    }

    private void stepOfRaise() {
        String sentence = "n of RAISE not - 32768 .. 32767";
        bad(sentence, n -> a -> a.unit(3, 900, n), LOW, -32769, 32768, 65535, HIGH);
        Asked a = new Asked(due, sentence);
        a.is(a.unit(3, 1, -32768), 0);
        a.is(a.unit(3, 1, 32767), 1);
        a.is(a.widen(), 1);
        a.unitIs(0, 196, 132, 0, 1, 128, 0);
        a.unitIs(1, 196, 132, 0, 1, 127, 255);
    }

    private void formOfRaise() {
        Asked a = new Asked(due, "RAISE k n: k up to 255, n - 128 .. 127: 132, k, n in 1; else 196, 132, k in 2, n in 2");
        int[][] calls = {{0, -128}, {255, 127}, {255, -1}, {255, 128}, {0, -129}, {256, 127}, {256, -128}, {65535, -1}};
        for (int[] call : calls) {
            a.unit(3, call[0], call[1]);
        }
        a.is(a.widen(), 1);
        a.unitIs(0, 132, 0, 128);
        a.unitIs(1, 132, 255, 127);
        a.unitIs(2, 132, 255, 255);
        a.unitIs(3, 196, 132, 0, 255, 0, 128);
        a.unitIs(4, 196, 132, 0, 0, 255, 127);
        a.unitIs(5, 196, 132, 1, 0, 0, 127);
        a.unitIs(6, 196, 132, 1, 0, 255, 128);
        a.unitIs(7, 196, 132, 255, 255, 255, 255);
        for (int i = 0; i < calls.length; i++) {
            a.is(a.of(i, 1), i < 3 ? 0 : 1);
            a.is(a.of(i, 3), NONE);
        }
    }

    private void labelOfGo() {
        String sentence = "GO l: no such LABEL";
        bad(sentence, label -> a -> a.unit(4, label, 0), LOW, -1, Made.LABELS, 40, HIGH);
        Twins.unchanged(due, sentence, Made::nothing, a -> a.unit(4, 0, 0), BAD);
        Twins.unchanged(due, sentence, Made::fullLabels, a -> a.unit(4, 40, 0), BAD);
        Asked a = new Asked(due, sentence);
        Made.fullLabels(a);
        a.is(a.unit(4, 0, 0), 1);
        a.is(a.unit(4, 39, 0), 2);
        a.is(a.widen(), 1);
        a.unitIs(1, 167, 255, 253);
        a.unitIs(2, 167, 255, 253);
    }

    private void conditionOfIf() {
        String sentence = "IF c l (c 0 .. 5)";
        bad(sentence, c -> a -> a.unit(5, c, 0), LOW, -1, 6, HIGH);
        Asked a = new Asked(due, sentence);
        a.label();
        a.put(0);
        for (int c = 0; c <= 5; c++) {
            a.is(a.unit(5, c, 0), c);
        }
        a.is(a.widen(), 1);
        for (int c = 0; c <= 5; c++) {
            a.unitIs(c, 153 + c, c == 0 ? 0 : 255, -3 * c & 255);
        }
    }

    private void labelOfIf() {
        String sentence = "IF: a is c, b the LABEL: no such LABEL";
        bad(sentence, label -> a -> a.unit(5, 0, label), LOW, -1, Made.LABELS, 40, HIGH);
        Twins.unchanged(due, sentence, Made::nothing, a -> a.unit(5, 0, 0), BAD);
        Twins.unchanged(due, sentence, Made::fullLabels, a -> a.unit(5, 5, 40), BAD);
        Asked a = new Asked(due, sentence);
        Made.fullLabels(a);
        a.is(a.unit(5, 0, 0), 1);
        a.is(a.unit(5, 0, 39), 2);
        a.is(a.unit(5, 0, 38), 3);
        a.is(a.check(1), 38);
    }

    private void whatDoesNotCount() {
        for (int b : new int[] {LOW, -32769, -1, 0, 256, 32768, 65536, HIGH}) {
            Asked a = new Asked(due, "b of LOAD, TAKE, GO does not count");
            a.number(0, 7);
            a.label();
            a.put(0);
            a.is(a.unit(1, 1, b), 0);
            a.is(a.unit(2, 1, b), 1);
            a.is(a.unit(4, 0, b), 2);
            a.is(a.widen(), 1);
            a.bytesAre(0, 18, 1, 27, 167, 255, 253, Due.NO_SUCH_INDEX);
            a.is(a.count(9), 2);
        }
    }

    private void keysRise() {
        String sentence = "key: BAD: not above the one ahead";
        bad(sentence, v -> a -> a.key(v, 0), LOW, -5, 0, Made.LAST_KEY - 1, Made.LAST_KEY);
        Asked a = new Asked(due, sentence);
        a.label();
        a.is(a.key(LOW, 0), 1);
        a.is(a.key(LOW, 0), BAD);
        a.is(a.key(LOW + 1, 0), 2);
        a.is(a.key(-1, 0), 3);
        a.is(a.key(-1, 0), BAD);
        a.is(a.key(-2, 0), BAD);
        a.is(a.key(0, 0), 4);
        a.is(a.key(HIGH, 0), 5);
        a.is(a.key(HIGH, 0), BAD);
        a.is(a.key(LOW, 0), BAD);
        a.is(a.count(7), 5);
        a.is(a.choice(0), 0);
        a.is(a.key(LOW, 0), 1);
    }

    private void labelOfKey() {
        String sentence = "key: BAD: no such LABEL";
        bad(sentence, label -> a -> a.key(Made.LAST_KEY + 1, label), LOW, -1, Made.LABELS, 40, HIGH);
        Twins.unchanged(due, sentence, Made::nothing, a -> a.key(0, 0), BAD);
        Twins.unchanged(due, sentence, Made::fullLabels, a -> a.key(0, 40), BAD);
        Asked a = new Asked(due, sentence);
        Made.fullLabels(a);
        a.is(a.key(0, 0), 1);
        a.is(a.key(1, 39), 2);
    }

    private void twentyKeys() {
        String sentence = "key: FULL: 20";
        Twins.unchanged(due, sentence, Made::fullKeys, a -> a.key(41, 0), FULL);
        Twins.unchanged(due, sentence, Made::fullKeys, a -> a.key(HIGH, 2), FULL);
        Twins.unchanged(due, "BAD: not above the one ahead, of 20", Made::fullKeys, a -> a.key(40, 0), BAD);
        Twins.unchanged(due, "BAD: no such LABEL, of 20", Made::fullKeys, a -> a.key(41, 3), BAD);
        Asked a = new Asked(due, sentence);
        a.label();
        for (int i = 1; i <= 20; i++) {
            a.is(a.key(i, 0), i);
            a.is(a.count(7), i);
        }
        a.is(a.key(21, 0), FULL);
        a.is(a.count(7), 20);
        a.is(a.choice(0), 0);
        a.is(a.count(7), 0);
        a.is(a.key(1, 0), 1);
    }

    private void labelOfChoice() {
        String sentence = "choice: BAD: no such LABEL";
        bad(sentence, label -> a -> a.choice(label), LOW, -1, Made.LABELS, 40, HIGH);
        Twins.unchanged(due, sentence, Made::nothing, a -> a.choice(0), BAD);
        Twins.unchanged(due, sentence, Made::fullLabels, a -> a.choice(40), BAD);
        Asked a = new Asked(due, sentence);
        Made.fullLabels(a);
        a.is(a.choice(0), 1);
        a.is(a.choice(39), 2);
    }

    private void choiceTakesTheKeys() {
        Asked a = new Asked(due, "A CHOICE of THE KEYS (which are none then)");
        a.label();
        a.put(0);
        a.key(5, 0);
        a.is(a.choice(0), 0);
        a.is(a.count(7), 0);
        a.is(a.choice(0), 1);
        a.is(a.key(5, 0), 1);
        a.is(a.key(9, 0), 2);
        a.is(a.choice(0), 2);
        a.is(a.widen(), 1);
        a.unitIs(0, 170, 0, 0, 0, 0, 0, 0, 0, 0, 0, 0, 5, 0, 0, 0, 5, 0, 0, 0, 0);
        a.unitIs(1, 171, 0, 0, 0, 255, 255, 255, 236, 0, 0, 0, 0);
        a.unitIs(2, 171, 0, 0, 0, 255, 255, 255, 224, 0, 0, 0, 2,
                0, 0, 0, 5, 255, 255, 255, 224, 0, 0, 0, 9, 255, 255, 255, 224);
    }

    private void choiceInFullCode() {
        String sentence = "choice: FULL (THE KEYS stay)";
        Twins.unchanged(due, sentence, Made::fullCode, a -> a.choice(0), FULL);
        Twins.unchanged(due, sentence, Made::fullCode, a -> a.choice(2), FULL);
        Twins.unchanged(due, "choice: BAD, in full code", Made::fullCode, a -> a.choice(3), BAD);
        Asked a = new Asked(due, sentence);
        Made.fullCode(a);
        a.is(a.choice(2), FULL);
        a.is(a.count(7), 2);
        a.is(a.key(9, 0), BAD);
        a.is(a.key(10, 0), 3);
        a.is(a.check(0), 0);
    }

    /** A choice at address 0 whose labels are all put there; its form is told. */
    private void formIs(int want, int bytes, int... keys) {
        Asked a = new Asked(due, "TABLE, if 4 times how many numbers, and 4, is not above 8 times how many KEYS");
        a.label();
        a.put(0);
        for (int key : keys) {
            a.key(key, 0);
        }
        a.is(a.choice(0), 0);
        a.is(a.widen(), 1);
        a.is(a.of(0, 1), want);
        a.is(a.of(0, 2), bytes);
        a.is(a.out(0), 170 + want);
    }

    private static int[] keysTo(int howMany, int last) {
        int[] keys = new int[howMany];
        for (int i = 0; i < howMany; i++) {
            keys[i] = i;
        }
        keys[howMany - 1] = last;
        return keys;
    }

    /** Of k keys, 2 * k - 1 numbers are the most of a table. */
    private void tableOrList() {
        for (int keys = 1; keys <= 20; keys++) {
            formIs(0, 16 + 4 * keys, keysTo(keys, keys - 1));
            formIs(0, 16 + 4 * (2 * keys - 1), keysTo(keys, 2 * keys - 2));
            if (keys > 1) {
                formIs(1, 12 + 8 * keys, keysTo(keys, 2 * keys - 1));
            }
        }
    }

    private void tableOrListOfKeysFarApart() {
        formIs(0, 20, LOW);
        formIs(0, 20, HIGH);
        formIs(0, 28, LOW, LOW + 2);
        formIs(0, 28, HIGH - 2, HIGH);
        formIs(0, 28, -1, 1);
        formIs(1, 28, LOW, HIGH);
        formIs(1, 28, -1, HIGH);
        formIs(1, 28, LOW, 0);
        formIs(1, 28, LOW, -1);
        formIs(1, 28, 0, 1 << 30);
        formIs(1, 28, 0, (1 << 30) - 1);
        formIs(1, 36, LOW, 0, HIGH);
    }

    private void choiceOfNoKey() {
        Asked a = new Asked(due, "It is TABLE, if there is a KEY");
        a.label();
        a.put(0);
        a.is(a.count(7), 0);
        a.is(a.choice(0), 0);
        a.is(a.widen(), 1);
        a.is(a.of(0, 1), 1);
        a.unitIs(0, 171, 0, 0, 0, 0, 0, 0, 0, 0, 0, 0, 0);
    }

    private void zerosToAMultipleOfFour() {
        for (int ahead = 0; ahead <= 8; ahead++) {
            Asked a = new Asked(due, "as many 0 as it takes to an ADDRESS that is a multiple of 4: " + ahead);
            a.label();
            a.put(0);
            a.plain(ahead);
            a.key(1, 0);
            int unit = a.choice(0);
            a.is(a.widen(), 1);
            int zeros = (ahead + 1) % 4 == 0 ? 0 : 4 - (ahead + 1) % 4;
            a.is(a.of(unit, 0), ahead);
            a.is(a.of(unit, 2), 1 + zeros + 16);
            a.is(a.out(ahead), 170);
            for (int i = 1; i <= zeros; i++) {
                a.is(a.out(ahead + i), 0);
            }
            int words = ahead + 1 + zeros, back = ahead == 0 ? 0 : 255;
            a.bytesAre(words, back, back, back, -ahead & 255, 0, 0, 0, 1, 0, 0, 0, 1, back, back, back, -ahead & 255,
                    Due.NO_SUCH_INDEX);
        }
    }

    private void numbersOfNoKey() {
        Asked a = new Asked(due, "d in 4 for each number from that to this (of no KEY: that of all others)");
        a.labels(3);
        a.put(0);
        a.plain(3);
        a.put(1);
        a.key(-1, 1);
        a.key(1, 2);
        a.is(a.choice(0), 1);
        a.put(2);
        a.is(a.widen(), 1);
        a.unitIs(1, 170, 255, 255, 255, 253, 255, 255, 255, 255, 0, 0, 0, 1,
                0, 0, 0, 0, 255, 255, 255, 253, 0, 0, 0, 25);
        a.is(a.of(1, 3), -3);
    }

    private void keysInFourBytes() {
        Asked list = new Asked(due, "LIST: how many KEYS in 4, for each its KEY, d in 4 each; below 0 as two's complement");
        list.label();
        list.put(0);
        list.plain(3);
        list.key(LOW, 0);
        list.key(-256, 0);
        list.key(HIGH, 0);
        list.choice(0);
        list.is(list.widen(), 1);
        list.unitIs(1, 171, 255, 255, 255, 253, 0, 0, 0, 3, 128, 0, 0, 0, 255, 255, 255, 253,
                255, 255, 255, 0, 255, 255, 255, 253, 127, 255, 255, 255, 255, 255, 255, 253);

        Asked table = new Asked(due, "TABLE: the least KEY, the greatest in 4 each");
        table.label();
        table.put(0);
        table.plain(3);
        table.key(LOW, 0);
        table.key(LOW + 1, 0);
        table.choice(0);
        table.key(HIGH, 0);
        table.choice(0);
        table.is(table.widen(), 1);
        table.unitIs(1, 170, 255, 255, 255, 253, 128, 0, 0, 0, 128, 0, 0, 1, 255, 255, 255, 253, 255, 255, 255, 253);
        table.is(table.of(2, 0), 24);
        table.unitIs(2, 170, 0, 0, 0, 255, 255, 255, 232, 127, 255, 255, 255, 127, 255, 255, 255,
                255, 255, 255, 232);
    }
}
