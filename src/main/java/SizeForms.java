import java.util.Arrays;

/**
 * Sizes of code and what it needs: a pool of constants, units of code whose jumps are widened
 * until they reach, members with parameters, and the first bound that is broken.
 */
public final class SizeForms {
    public static final int NONE = -1, BAD = -2, FULL = -3, NOT = -4;

    private static final int MOST_CONSTANTS = 400, MOST_SIGNS = 60, MOST_UNITS = 150;
    private static final int MOST_LABELS = 40, MOST_KEYS = 20, MOST_MEMBERS = 20;
    private static final int MOST_PLAIN = 200, MOST_PARAMETERS = 300;

    private static final int INT = 0, LONG = 1, DOUBLE = 2, TEXT = 3, NAME = 4, PAIR = 5, MEMBER = 6;
    private static final int[] BYTES_OF_SORT = {5, 9, 9, 3, 3, 5, 5};
    private static final int[] NO_SIGNS = {};

    private static final int PLAIN = 0, LOAD = 1, TAKE = 2, RAISE = 3, GO = 4, IF = 5;

    private static final int PLACES = 0, TEXT_BYTES = 1, CODE_BYTES = 2;
    private static final int REACH = 3, LOCALS = 4, PARAMETER_PLACES = 5;
    private static final int[] LEAST_LIMITS = {1, 0, 0, 1, 0, 0};
    private static final int[] GREATEST_LIMITS = {65535, 65535, 65535, 32767, 65535, 255};

    private final Pool pool;
    private final Code code;
    private final int[] limits;
    private final int[] memberPlaces;
    private int memberCount;

    public SizeForms() {
        pool = new Pool();
        code = new Code();
        limits = Arrays.copyOf(GREATEST_LIMITS, GREATEST_LIMITS.length);
        memberPlaces = new int[MOST_MEMBERS];
    }

    public int limit(int what, int v) {
        if (!isWithin(what, PLACES, PARAMETER_PLACES)) {
            return BAD;
        }
        if (!isWithin(v, LEAST_LIMITS[what], GREATEST_LIMITS[what])) {
            return BAD;
        }
        if (what == REACH) {
            code.forgetRounds();
        }
        int before = limits[what];
        limits[what] = v;
        return before;
    }

    public int sign(int c) {
        return isWithin(c, 0, 65535) ? pool.addSign(c) : BAD;
    }

    public int wipe() {
        return pool.emptyRow();
    }

    public int number(int sort, long bits) {
        switch (sort) {
            case INT:
                return pool.placeOf(INT, (int) bits, 0);
            case LONG:
                return pool.placeOf(LONG, bits, 0);
            case DOUBLE:
                return pool.placeOf(DOUBLE, withOneNaN(bits), 0);
            default:
                return BAD;
        }
    }

    public int text() {
        return pool.placeOfRow();
    }

    public int link(int sort, int a, int b) {
        switch (sort) {
            case NAME:
                // b does not count: NONE stands for it, so that equal names are found equal.
                return pool.sortAt(a) == TEXT ? pool.placeOf(NAME, bothHalves(a, NONE), 0) : BAD;
            case PAIR:
                return linkOf(PAIR, a, TEXT, b, TEXT);
            case MEMBER:
                return linkOf(MEMBER, a, NAME, b, PAIR);
            default:
                return BAD;
        }
    }

    public int told(int place, int what) {
        if (!isWithin(what, 0, 3)) {
            return BAD;
        }
        Constant constant = pool.constantAt(place);
        if (constant == null) {
            return NONE;
        }
        switch (what) {
            case 0:
                return constant.sort;
            case 1:
                return constant.bytes();
            case 2:
                return constant.firstPart();
            default:
                return constant.secondPart();
        }
    }

    public int label() {
        return code.addLabel();
    }

    public int put(int label) {
        return code.hasLabel(label) ? code.putLabel(label) : BAD;
    }

    public int unit(int sort, int a, int b) {
        if (!isUnit(sort, a, b)) {
            return BAD;
        }
        if (code.isFull()) {
            return FULL;
        }
        switch (sort) {
            case PLAIN:
                return code.addUnit(new Repeat(a, b));
            case LOAD:
                return code.addUnit(loadOf(a));
            case TAKE:
                return code.addUnit(takeOf(a));
            case RAISE:
                return code.addUnit(raiseOf(a, b));
            case GO:
                return code.addJump(NONE, a);
            default:
                return code.addJump(a, b);
        }
    }

    public int key(int v, int label) {
        return code.hasLabel(label) ? code.addKey(v, label) : BAD;
    }

    public int choice(int label) {
        return code.hasLabel(label) ? code.addChoice(label) : BAD;
    }

    public int widen() {
        if (code.firstLooseLabel() != NONE) {
            return NOT;
        }
        return code.doRounds(limits[REACH]);
    }

    public int of(int unit, int what) {
        if (!code.hasUnit(unit) || !isWithin(what, 0, 3)) {
            return BAD;
        }
        if (!code.isWidened()) {
            return NOT;
        }
        switch (what) {
            case 0:
                return code.addressOf(unit);
            case 1:
                return code.formOf(unit);
            case 2:
                return code.lengthOf(unit);
            default:
                return code.distanceOf(unit);
        }
    }

    public int out(int i) throws IllegalStateException, ArrayIndexOutOfBoundsException {
        if (!code.isWidened()) {
            throw new IllegalStateException("the code is not widened");
        }
        if (!isWithin(i, 0, code.byteCount() - 1)) {
            throw new ArrayIndexOutOfBoundsException("the code has no such byte");
        }
        return code.byteAt(i);
    }

    public int member(boolean alone, int single, int twice) {
        if (!isWithin(single, 0, MOST_PARAMETERS) || !isWithin(twice, 0, MOST_PARAMETERS)) {
            return BAD;
        }
        if (memberCount >= MOST_MEMBERS) {
            return FULL;
        }
        memberPlaces[memberCount] = single + 2 * twice + (alone ? 0 : 1);
        memberCount++;
        return memberCount - 1;
    }

    public int check(int what) {
        if (!isWithin(what, 0, 1)) {
            return BAD;
        }
        int bound = firstBound();
        return what == 0 ? bound : breakerOf(bound);
    }

    public int count(int what) {
        switch (what) {
            case 0:
                return pool.size();
            case 1:
                return pool.nextPlace();
            case 2:
                return pool.bytes();
            case 3:
                return code.unitCount();
            case 4:
                return code.labelCount();
            case 5:
                return memberCount;
            case 6:
                return pool.rowLength();
            case 7:
                return code.keyCount();
            case 8:
                return code.isWidened() ? code.byteCount() : NOT;
            case 9:
                return code.locals();
            default:
                return BAD;
        }
    }

    private int linkOf(int sort, int a, int sortOfA, int b, int sortOfB) {
        if (pool.sortAt(a) != sortOfA || pool.sortAt(b) != sortOfB) {
            return BAD;
        }
        return pool.placeOf(sort, bothHalves(a, b), 0);
    }

    private boolean isUnit(int sort, int a, int b) {
        switch (sort) {
            case PLAIN:
                return isWithin(a, 1, MOST_PLAIN) && isWithin(b, 0, 255);
            case LOAD:
                return isWithin(pool.sortAt(a), INT, DOUBLE);
            case TAKE:
                return isWithin(a, 0, 65535);
            case RAISE:
                return isWithin(a, 0, 65535) && isWithin(b, -32768, 32767);
            case GO:
                return code.hasLabel(a);
            case IF:
                return isWithin(a, 0, 5) && code.hasLabel(b);
            default:
                return false;
        }
    }

    private Unit loadOf(int place) {
        if (pool.sortAt(place) != INT) {
            return new Fixed(new int[] {20, byteOf(place, 2, 0), byteOf(place, 2, 1)}, 0, NONE);
        }
        if (place <= 255) {
            return new Fixed(new int[] {18, place}, 0, NONE);
        }
        return new Fixed(new int[] {19, byteOf(place, 2, 0), byteOf(place, 2, 1)}, 1, NONE);
    }

    private static Unit takeOf(int local) {
        if (local <= 3) {
            return new Fixed(new int[] {26 + local}, 0, local);
        }
        if (local <= 255) {
            return new Fixed(new int[] {21, local}, 0, local);
        }
        return new Fixed(new int[] {196, 21, byteOf(local, 2, 0), byteOf(local, 2, 1)}, 1, local);
    }

    private static Unit raiseOf(int local, int by) {
        if (local <= 255 && isWithin(by, -128, 127)) {
            return new Fixed(new int[] {132, local, byteOf(by, 1, 0)}, 0, local);
        }
        int[] bytes = {196, 132, byteOf(local, 2, 0), byteOf(local, 2, 1), byteOf(by, 2, 0), byteOf(by, 2, 1)};
        return new Fixed(bytes, 1, local);
    }

    private int firstBound() {
        if (pool.nextPlace() - 1 > limits[PLACES]) {
            return 1;
        }
        if (pool.firstTextAbove(limits[TEXT_BYTES]) != NONE) {
            return 2;
        }
        if (code.firstLooseLabel() != NONE) {
            return 3;
        }
        code.doRounds(limits[REACH]);
        if (code.byteCount() == 0 || code.byteCount() > limits[CODE_BYTES]) {
            return 4;
        }
        if (code.locals() > limits[LOCALS]) {
            return 5;
        }
        return firstMemberAbove(limits[PARAMETER_PLACES]) == NONE ? 0 : 6;
    }

    private int breakerOf(int bound) {
        switch (bound) {
            case 1:
                return pool.nextPlace() - 1;
            case 2:
                return pool.firstTextAbove(limits[TEXT_BYTES]);
            case 3:
                return code.firstLooseLabel();
            case 4:
                return code.byteCount();
            case 5:
                return code.locals();
            case 6:
                return firstMemberAbove(limits[PARAMETER_PLACES]);
            default:
                return 0;
        }
    }

    private int firstMemberAbove(int places) {
        for (int i = 0; i < memberCount; i++) {
            if (memberPlaces[i] > places) {
                return i;
            }
        }
        return NONE;
    }

    private static boolean isWithin(int value, int least, int greatest) {
        return value >= least && value <= greatest;
    }

    /** All bits that mean NaN become the ones by which Double.doubleToLongBits tells it. */
    private static long withOneNaN(long bits) {
        boolean isNaN = (bits & 0x7fffffffffffffffL) > 0x7ff0000000000000L;
        return isNaN ? 0x7ff8000000000000L : bits;
    }

    /** Two parts in one long, so that links are kept and found as numbers are. */
    private static long bothHalves(int first, int second) {
        return ((long) first << 32) | (second & 0xffffffffL);
    }

    /** The byte at an index of a value that stands in so many bytes, the highest one first. */
    private static int byteOf(int value, int length, int index) {
        return (value >> (8 * (length - 1 - index))) & 255;
    }

    /** A constant: a text is its signs, any other one its bits. */
    private static final class Constant {
        private final int sort;
        private final int place;
        private final long bits;
        private final int[] signs;
        private final int signBytes;

        Constant(int sort, int place, long bits, int[] signs) {
            this.sort = sort;
            this.place = place;
            this.bits = bits;
            this.signs = signs;
            this.signBytes = bytesOfSigns(signs);
        }

        boolean isSame(int otherSort, long otherBits, int[] row, int length) {
            if (sort != otherSort || bits != otherBits || signs.length != length) {
                return false;
            }
            for (int i = 0; i < signs.length && i < row.length; i++) {
                if (signs[i] != row[i]) {
                    return false;
                }
            }
            return true;
        }

        int bytes() {
            return BYTES_OF_SORT[sort] + signBytes;
        }

        int placesTaken() {
            return sort == LONG || sort == DOUBLE ? 2 : 1;
        }

        int firstPart() {
            return sort >= NAME ? (int) (bits >> 32) : NONE;
        }

        int secondPart() {
            return sort >= NAME ? (int) bits : NONE;
        }

        private static int bytesOfSigns(int[] signs) {
            int bytes = 0;
            for (int sign : signs) {
                bytes += bytesOfSign(sign);
            }
            return bytes;
        }

        private static int bytesOfSign(int sign) {
            if (isWithin(sign, 1, 127)) {
                return 1;
            }
            return sign <= 2047 ? 2 : 3;
        }
    }

    /** The constants by rising places, and the row of signs that the next text is made of. */
    private static final class Pool {
        private final Constant[] constants = new Constant[MOST_CONSTANTS];
        private int size;
        private int nextPlace = 1;
        private int bytes;
        private final int[] row = new int[MOST_SIGNS];
        private int rowLength;

        int size() {
            return size;
        }

        int nextPlace() {
            return nextPlace;
        }

        int bytes() {
            return bytes;
        }

        int rowLength() {
            return rowLength;
        }

        int addSign(int sign) {
            if (rowLength >= MOST_SIGNS) {
                return FULL;
            }
            row[rowLength] = sign;
            rowLength++;
            return rowLength;
        }

        int emptyRow() {
            int before = rowLength;
            rowLength = 0;
            return before;
        }

        int placeOfRow() {
            int place = placeOf(TEXT, 0, rowLength);
            if (place != FULL) {
                rowLength = 0;
            }
            return place;
        }

        /** The signs are the first ones of the row; one that is there already is told even if the pool is full. */
        int placeOf(int sort, long bits, int signCount) {
            for (int i = 0; i < size; i++) {
                if (constants[i].isSame(sort, bits, row, signCount)) {
                    return constants[i].place;
                }
            }
            if (size >= MOST_CONSTANTS) {
                return FULL;
            }
            int[] signs = signCount <= 0 ? NO_SIGNS : Arrays.copyOf(row, signCount);
            return add(new Constant(sort, nextPlace, bits, signs));
        }

        private int add(Constant constant) {
            constants[size] = constant;
            size++;
            nextPlace += constant.placesTaken();
            bytes += constant.bytes();
            return constant.place;
        }

        /** The constant that is told by a place, or null. */
        Constant constantAt(int place) {
            for (int i = 0; i < size; i++) {
                if (constants[i].place == place) {
                    return constants[i];
                }
            }
            return null;
        }

        int sortAt(int place) {
            Constant constant = constantAt(place);
            return constant == null ? NONE : constant.sort;
        }

        int firstTextAbove(int mostBytes) {
            for (int i = 0; i < size; i++) {
                if (constants[i].signBytes > mostBytes) {
                    return constants[i].place;
                }
            }
            return NONE;
        }
    }

    /** A unit of code, which knows its bytes but not where it stands. */
    private abstract static class Unit {
        abstract int form();

        abstract int length(int address);

        /** The byte at an offset that is below the unit's length. */
        abstract int byteIn(int offset, int address, Code code);

        /** The greatest local that it names, or NONE. */
        int local() {
            return NONE;
        }

        /** The label whose distance is told of it, or NONE. */
        int goal() {
            return NONE;
        }

        void makeShort() {
        }

        /** Whether it was short and is too far from its goal; it is wide then. */
        boolean widenIfFar(int distance, int reach) {
            return false;
        }
    }

    /** PLAIN: the same byte so many times. */
    private static final class Repeat extends Unit {
        private final int times;
        private final int value;

        Repeat(int times, int value) {
            this.times = times;
            this.value = value;
        }

        @Override
        int form() {
            return 0;
        }

        @Override
        int length(int address) {
            return times;
        }

        @Override
        int byteIn(int offset, int address, Code code) {
            return value;
        }
    }

    /** LOAD, TAKE, RAISE: bytes that are known as soon as the unit is made. */
    private static final class Fixed extends Unit {
        private final int[] bytes;
        private final int form;
        private final int local;

        Fixed(int[] bytes, int form, int local) {
            this.bytes = bytes;
            this.form = form;
            this.local = local;
        }

        @Override
        int form() {
            return form;
        }

        @Override
        int length(int address) {
            return bytes.length;
        }

        @Override
        int byteIn(int offset, int address, Code code) {
            return isWithin(offset, 0, bytes.length - 1) ? bytes[offset] : 0;
        }

        @Override
        int local() {
            return local;
        }
    }

    /** GO (its condition is NONE) and IF. */
    private static final class Jump extends Unit {
        private final int condition;
        private final int label;
        private boolean wide;

        Jump(int condition, int label) {
            this.condition = condition;
            this.label = label;
        }

        @Override
        int form() {
            return wide ? 1 : 0;
        }

        @Override
        int length(int address) {
            return wide ? turnLength() + 5 : 3;
        }

        @Override
        int byteIn(int offset, int address, Code code) {
            int distance = code.distance(label, address);
            if (!wide) {
                return offset == 0 ? shortCode() : byteOf(distance, 2, offset - 1);
            }
            int ahead = turnLength();
            if (offset < ahead) {
                return offset == 0 ? 153 + (condition ^ 1) : byteOf(8, 2, offset - 1);
            }
            return offset == ahead ? 200 : byteOf(distance - ahead, 4, offset - ahead - 1);
        }

        @Override
        int goal() {
            return label;
        }

        @Override
        void makeShort() {
            wide = false;
        }

        @Override
        boolean widenIfFar(int distance, int reach) {
            if (wide || isWithin(distance, -reach - 1, reach)) {
                return false;
            }
            wide = true;
            return true;
        }

        private int shortCode() {
            return condition == NONE ? 167 : 153 + condition;
        }

        /** A wide IF is the other IF, which jumps over a wide GO. */
        private int turnLength() {
            return condition == NONE ? 0 : 3;
        }
    }

    /** CHOICE: a code, as many 0 as it takes to a multiple of 4, and words of 4 bytes. */
    private static final class Choice extends Unit {
        private final int[] keys;
        private final int[] labels;
        private final int otherLabel;
        private final int least;
        private final int greatest;
        private final boolean table;

        Choice(int[] keys, int[] labels, int otherLabel) {
            this.keys = keys;
            this.labels = labels;
            this.otherLabel = otherLabel;
            this.least = keys.length == 0 ? 0 : keys[0];
            this.greatest = keys.length == 0 ? 0 : keys[keys.length - 1];
            this.table = keys.length > 0 && 4 * numbersFrom(least, greatest) + 4 <= 8L * keys.length;
        }

        @Override
        int form() {
            return table ? 0 : 1;
        }

        @Override
        int length(int address) {
            int words = table ? 3 + (int) numbersFrom(least, greatest) : 2 + 2 * keys.length;
            return wordsStart(address) + 4 * words;
        }

        @Override
        int byteIn(int offset, int address, Code code) {
            if (offset == 0) {
                return table ? 170 : 171;
            }
            int inWords = offset - wordsStart(address);
            return inWords < 0 ? 0 : byteOf(wordAt(inWords / 4, address, code), 4, inWords % 4);
        }

        @Override
        int goal() {
            return otherLabel;
        }

        private static int wordsStart(int address) {
            return 4 - (address & 3);
        }

        /** In long, for the keys may lie further apart than an int can tell. */
        private static long numbersFrom(int least, int greatest) {
            return (long) greatest - least + 1;
        }

        private int wordAt(int index, int address, Code code) {
            if (index == 0) {
                return code.distance(otherLabel, address);
            }
            return table ? tableWord(index, address, code) : listWord(index, address, code);
        }

        private int tableWord(int index, int address, Code code) {
            if (index <= 2) {
                return index == 1 ? least : greatest;
            }
            return code.distance(labelFor(least + index - 3), address);
        }

        private int labelFor(int number) {
            for (int i = 0; i < keys.length && i < labels.length; i++) {
                if (keys[i] == number) {
                    return labels[i];
                }
            }
            return otherLabel;
        }

        private int listWord(int index, int address, Code code) {
            if (index == 1) {
                return keys.length;
            }
            int entry = (index - 2) / 2;
            if (entry < 0 || entry >= keys.length || entry >= labels.length) {
                return 0;
            }
            return index % 2 == 0 ? keys[entry] : code.distance(labels[entry], address);
        }
    }

    /** The units with their addresses, the labels, and the keys that the next choice is made of. */
    private static final class Code {
        private final Unit[] units = new Unit[MOST_UNITS];
        private int unitCount;
        private int locals;
        // One more than the units: the end has an address, too.
        private final int[] addresses = new int[MOST_UNITS + 1];
        // How many it took to widen the code; 0 while it is not widened.
        private int rounds;
        // The unit that a label is put ahead of, counted from 1; 0 while it is not put.
        private final int[] putAhead = new int[MOST_LABELS];
        private final boolean[] used = new boolean[MOST_LABELS];
        private int labelCount;
        private final int[] keys = new int[MOST_KEYS];
        private final int[] keyLabels = new int[MOST_KEYS];
        private int keyCount;

        int unitCount() {
            return unitCount;
        }

        int labelCount() {
            return labelCount;
        }

        int keyCount() {
            return keyCount;
        }

        int locals() {
            return locals;
        }

        int byteCount() {
            return addresses[unitCount];
        }

        boolean isFull() {
            return unitCount >= MOST_UNITS;
        }

        boolean isWidened() {
            return rounds > 0;
        }

        void forgetRounds() {
            rounds = 0;
        }

        boolean hasUnit(int unit) {
            return isWithin(unit, 0, unitCount - 1);
        }

        boolean hasLabel(int label) {
            return isWithin(label, 0, labelCount - 1);
        }

        int addLabel() {
            if (labelCount >= MOST_LABELS) {
                return FULL;
            }
            labelCount++;
            return labelCount - 1;
        }

        int putLabel(int label) {
            if (putAhead[label] != 0) {
                return NOT;
            }
            putAhead[label] = unitCount + 1;
            forgetRounds();
            return unitCount;
        }

        int addUnit(Unit unit) {
            if (isFull()) {
                return FULL;
            }
            units[unitCount] = unit;
            unitCount++;
            locals = Math.max(locals, unit.local() + 1);
            forgetRounds();
            return unitCount - 1;
        }

        int addJump(int condition, int label) {
            used[label] = true;
            return addUnit(new Jump(condition, label));
        }

        int addKey(int key, int label) {
            if (keyCount > 0 && key <= keys[keyCount - 1]) {
                return BAD;
            }
            if (keyCount >= MOST_KEYS) {
                return FULL;
            }
            keys[keyCount] = key;
            keyLabels[keyCount] = label;
            keyCount++;
            return keyCount;
        }

        int addChoice(int otherLabel) {
            if (isFull()) {
                return FULL;
            }
            used[otherLabel] = true;
            for (int i = 0; i < keyCount; i++) {
                used[keyLabels[i]] = true;
            }
            Unit choice = new Choice(Arrays.copyOf(keys, keyCount), Arrays.copyOf(keyLabels, keyCount), otherLabel);
            keyCount = 0;
            return addUnit(choice);
        }

        /** The least label that a unit uses and that is not put, or NONE. */
        int firstLooseLabel() {
            for (int i = 0; i < labelCount; i++) {
                if (used[i] && putAhead[i] == 0) {
                    return i;
                }
            }
            return NONE;
        }

        /** Widens the code and tells the rounds; code that is widened would take the same ones again. */
        int doRounds(int reach) {
            if (isWidened()) {
                return rounds;
            }
            for (int i = 0; i < unitCount; i++) {
                units[i].makeShort();
            }
            boolean noted = true;
            // Each round but the last one widens a unit at least, which bounds them.
            for (int round = 1; noted && round <= unitCount + 1; round++) {
                layOut();
                noted = widenFarJumps(reach);
                rounds = round;
            }
            return rounds;
        }

        private void layOut() {
            int address = 0;
            for (int i = 0; i < unitCount; i++) {
                addresses[i] = address;
                address += units[i].length(address);
            }
            addresses[unitCount] = address;
        }

        /** The addresses stay as they are meanwhile, so that a unit made wide does not move the others. */
        private boolean widenFarJumps(int reach) {
            boolean noted = false;
            for (int i = 0; i < unitCount; i++) {
                if (units[i].widenIfFar(distanceOf(i), reach)) {
                    noted = true;
                }
            }
            return noted;
        }

        int addressOf(int unit) {
            return addresses[unit];
        }

        int formOf(int unit) {
            return units[unit].form();
        }

        int lengthOf(int unit) {
            return addresses[unit + 1] - addresses[unit];
        }

        int distanceOf(int unit) {
            int goal = units[unit].goal();
            return goal == NONE ? NONE : distance(goal, addresses[unit]);
        }

        int distance(int label, int from) {
            if (label < 0 || label >= labelCount || putAhead[label] == 0) {
                return 0;
            }
            return addresses[putAhead[label] - 1] - from;
        }

        int byteAt(int index) {
            int unit = 0;
            for (int i = 1; i < unitCount && addresses[i] <= index; i++) {
                unit = i;
            }
            return units[unit].byteIn(index - addresses[unit], addresses[unit], this);
        }
    }
}
