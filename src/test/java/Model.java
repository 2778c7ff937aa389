import java.io.ByteArrayOutputStream;
import java.io.DataOutputStream;
import java.io.IOException;
import java.io.UncheckedIOException;
import java.util.ArrayList;
import java.util.LinkedHashMap;
import java.util.List;
import java.util.Map;
import java.util.TreeMap;
import java.util.TreeSet;

/** The document once more, told with the Java library and with all bytes written out: what ModelTest compares with. */
final class Model {
    private static final int NONE = -1, BAD = -2, FULL = -3, NOT = -4;

    private record Constant(int sort, Object value, int a, int b) { }

    private record Unit(int sort, int a, int b, TreeMap<Integer, Integer> keys) { }

    private final int[] limits = {65535, 65535, 65535, 32767, 65535, 255};
    private final Map<Constant, Integer> places = new LinkedHashMap<>();
    private final Map<Integer, Constant> constants = new TreeMap<>();
    private int nextPlace = 1;
    private String row = "";
    private final List<Unit> units = new ArrayList<>();
    private final List<Integer> labels = new ArrayList<>();
    private TreeMap<Integer, Integer> keys = new TreeMap<>();
    private final List<Integer> members = new ArrayList<>();
    private TreeSet<Integer> wide;
    private int rounds;
    private List<byte[]> pieces;

    int limit(int what, int v) {
        int[] least = {1, 0, 0, 1, 0, 0}, most = {65535, 65535, 65535, 32767, 65535, 255};
        if (what < 0 || what > 5 || v < least[what] || v > most[what]) {
            return BAD;
        }
        if (what == 3) {
            wide = null;
        }
        int was = limits[what];
        limits[what] = v;
        return was;
    }

    int sign(int c) {
        if (c < 0 || c > 65535) {
            return BAD;
        }
        if (row.length() == 60) {
            return FULL;
        }
        row += (char) c;
        return row.length();
    }

    int wipe() {
        int was = row.length();
        row = "";
        return was;
    }

    private int place(Constant constant) {
        Integer known = places.get(constant);
        if (known != null) {
            return known;
        }
        if (places.size() == 400) {
            return FULL;
        }
        int place = nextPlace;
        places.put(constant, place);
        constants.put(place, constant);
        nextPlace += constant.sort == 1 || constant.sort == 2 ? 2 : 1;
        return place;
    }

    int number(int sort, long bits) {
        switch (sort) {
            case 0: return place(new Constant(0, (int) bits, NONE, NONE));
            case 1: return place(new Constant(1, bits, NONE, NONE));
            case 2: return place(new Constant(2, Double.doubleToLongBits(Double.longBitsToDouble(bits)), NONE, NONE));
            default: return BAD;
        }
    }

    int text() {
        int place = place(new Constant(3, row, NONE, NONE));
        if (place > 0) {
            row = "";
        }
        return place;
    }

    private int sortAt(int place) {
        return constants.containsKey(place) ? constants.get(place).sort : NONE;
    }

    int link(int sort, int a, int b) {
        if (sort == 4 && sortAt(a) == 3) {
            return place(new Constant(4, "", a, NONE));
        }
        boolean good = sort == 5 && sortAt(a) == 3 && sortAt(b) == 3 || sort == 6 && sortAt(a) == 4 && sortAt(b) == 5;
        return good ? place(new Constant(sort, "", a, b)) : BAD;
    }

    private static int signBytes(Constant constant) {
        int bytes = 0;
        for (char c : constant.sort == 3 ? ((String) constant.value).toCharArray() : new char[0]) {
            bytes += c >= 1 && c <= 127 ? 1 : c == 0 || c >= 128 && c <= 2047 ? 2 : 3;
        }
        return bytes;
    }

    private static int bytes(Constant constant) {
        return new int[] {5, 9, 9, 3, 3, 5, 5}[constant.sort] + signBytes(constant);
    }

    int told(int place, int what) {
        if (what < 0 || what > 3) {
            return BAD;
        }
        Constant constant = constants.get(place);
        if (constant == null) {
            return NONE;
        }
        return what == 0 ? constant.sort : what == 1 ? bytes(constant) : what == 2 ? constant.a : constant.b;
    }

    int label() {
        if (labels.size() == 40) {
            return FULL;
        }
        labels.add(null);
        return labels.size() - 1;
    }

    private boolean isLabel(int label) {
        return label >= 0 && label < labels.size();
    }

    int put(int label) {
        if (!isLabel(label)) {
            return BAD;
        }
        if (labels.get(label) != null) {
            return NOT;
        }
        labels.set(label, units.size());
        wide = null;
        return units.size();
    }

    private boolean isGood(int sort, int a, int b) {
        switch (sort) {
            case 0: return a >= 1 && a <= 200 && b >= 0 && b <= 255;
            case 1: return sortAt(a) >= 0 && sortAt(a) <= 2;
            case 2: return a == (char) a;
            case 3: return a == (char) a && b == (short) b;
            case 4: return isLabel(a);
            case 5: return a >= 0 && a <= 5 && isLabel(b);
            default: return false;
        }
    }

    private int add(Unit unit) {
        if (units.size() == 150) {
            return FULL;
        }
        units.add(unit);
        wide = null;
        return units.size() - 1;
    }

    int unit(int sort, int a, int b) {
        return isGood(sort, a, b) ? add(new Unit(sort, a, b, null)) : BAD;
    }

    int key(int v, int label) {
        if (!isLabel(label) || !keys.isEmpty() && keys.lastKey() >= v) {
            return BAD;
        }
        if (keys.size() == 20) {
            return FULL;
        }
        keys.put(v, label);
        return keys.size();
    }

    int choice(int label) {
        if (!isLabel(label)) {
            return BAD;
        }
        int number = add(new Unit(6, label, 0, keys));
        if (number >= 0) {
            keys = new TreeMap<>();
        }
        return number;
    }

    private int looseLabel() {
        TreeSet<Integer> used = new TreeSet<>();
        for (Unit unit : units) {
            if (unit.sort == 6) {
                used.add(unit.a);
                used.addAll(unit.keys.values());
            } else if (unit.sort >= 4) {
                used.add(unit.sort == 4 ? unit.a : unit.b);
            }
        }
        for (int label : used) {
            if (labels.get(label) == null) {
                return label;
            }
        }
        return NONE;
    }

    /** Writes all bytes twice: the first time tells the addresses, which the second one needs. */
    private List<byte[]> write(TreeSet<Integer> wideOnes) {
        List<byte[]> written = writeAt(new int[units.size() + 1], wideOnes);
        return writeAt(addresses(written), wideOnes);
    }

    private static int[] addresses(List<byte[]> written) {
        int[] addresses = new int[written.size() + 1];
        for (int i = 0; i < written.size(); i++) {
            addresses[i + 1] = addresses[i] + written.get(i).length;
        }
        return addresses;
    }

    private List<byte[]> writeAt(int[] addresses, TreeSet<Integer> wideOnes) {
        List<byte[]> written = new ArrayList<>();
        int at = 0;
        for (int i = 0; i < units.size(); i++) {
            ByteArrayOutputStream bytes = new ByteArrayOutputStream();
            try {
                writeUnit(new DataOutputStream(bytes), units.get(i), at, addresses, wideOnes.contains(i));
            } catch (IOException e) {
                throw new UncheckedIOException(e);
            }
            written.add(bytes.toByteArray());
            at += bytes.size();
        }
        return written;
    }

    private int goal(Unit unit) {
        return unit.sort == 5 ? unit.b : unit.a;
    }

    private void writeUnit(DataOutputStream to, Unit unit, int at, int[] addresses, boolean isWide) throws IOException {
        int a = unit.a, b = unit.b;
        int d = unit.sort < 4 ? 0 : addresses[labels.get(goal(unit))] - at;
        switch (unit.sort) {
            case 0:
                for (int i = 0; i < a; i++) {
                    to.writeByte(b);
                }
                break;
            case 1:
                if (sortAt(a) == 0 && a < 256) {
                    to.writeByte(18);
                    to.writeByte(a);
                } else {
                    to.writeByte(sortAt(a) == 0 ? 19 : 20);
                    to.writeShort(a);
                }
                break;
            case 2:
                if (a < 4) {
                    to.writeByte(26 + a);
                } else if (a < 256) {
                    to.writeByte(21);
                    to.writeByte(a);
                } else {
                    to.writeShort(196 * 256 + 21);
                    to.writeShort(a);
                }
                break;
            case 3:
                if (a < 256 && b == (byte) b) {
                    to.writeByte(132);
                    to.writeByte(a);
                    to.writeByte(b);
                } else {
                    to.writeShort(196 * 256 + 132);
                    to.writeShort(a);
                    to.writeShort(b);
                }
                break;
            case 4:
            case 5:
                writeJump(to, unit, d, isWide);
                break;
            default:
                writeChoice(to, unit, at, d, addresses);
        }
    }

    private void writeJump(DataOutputStream to, Unit unit, int d, boolean isWide) throws IOException {
        if (!isWide) {
            to.writeByte(unit.sort == 4 ? 167 : 153 + unit.a);
            to.writeShort(d);
        } else if (unit.sort == 4) {
            to.writeByte(200);
            to.writeInt(d);
        } else {
            to.writeByte(unit.a % 2 == 0 ? 154 + unit.a : 152 + unit.a);
            to.writeShort(8);
            to.writeByte(200);
            to.writeInt(d - 3);
        }
    }

    private static boolean isTable(Unit unit) {
        if (unit.keys.isEmpty()) {
            return false;
        }
        long numbers = (long) unit.keys.lastKey() - (long) unit.keys.firstKey() + 1L;
        return numbers * 4 + 4 <= unit.keys.size() * 8L;
    }

    private void writeChoice(DataOutputStream to, Unit unit, int at, int d, int[] addresses) throws IOException {
        to.writeByte(isTable(unit) ? 170 : 171);
        while ((at + to.size()) % 4 != 0) {
            to.writeByte(0);
        }
        to.writeInt(d);
        if (isTable(unit)) {
            to.writeInt(unit.keys.firstKey());
            to.writeInt(unit.keys.lastKey());
            for (long n = unit.keys.firstKey(); n <= unit.keys.lastKey(); n++) {
                to.writeInt(addresses[labels.get(unit.keys.getOrDefault((int) n, unit.a))] - at);
            }
        } else {
            to.writeInt(unit.keys.size());
            for (Map.Entry<Integer, Integer> entry : unit.keys.entrySet()) {
                to.writeInt(entry.getKey());
                to.writeInt(addresses[labels.get(entry.getValue())] - at);
            }
        }
    }

    int widen() {
        if (looseLabel() != NONE) {
            return NOT;
        }
        wide = new TreeSet<>();
        rounds = 0;
        TreeSet<Integer> noted;
        do {
            pieces = write(wide);
            noted = new TreeSet<>();
            for (int i = 0; i < units.size(); i++) {
                int sort = units.get(i).sort;
                if ((sort == 4 || sort == 5) && !wide.contains(i) && (d(i) < -limits[3] - 1 || d(i) > limits[3])) {
                    noted.add(i);
                }
            }
            wide.addAll(noted);
            rounds++;
        } while (!noted.isEmpty());
        return rounds;
    }

    private int d(int unit) {
        int[] addresses = addresses(pieces);
        return addresses[labels.get(goal(units.get(unit)))] - addresses[unit];
    }

    int of(int unit, int what) {
        if (unit < 0 || unit >= units.size() || what < 0 || what > 3) {
            return BAD;
        }
        if (wide == null) {
            return NOT;
        }
        switch (what) {
            case 0: return addresses(pieces)[unit];
            case 1: return form(unit);
            case 2: return pieces.get(unit).length;
            default: return units.get(unit).sort < 4 ? NONE : d(unit);
        }
    }

    private int form(int number) {
        Unit unit = units.get(number);
        int length = pieces.get(number).length;
        switch (unit.sort) {
            case 1: return sortAt(unit.a) == 0 && length == 3 ? 1 : 0;
            case 2: return length == 4 ? 1 : 0;
            case 3: return length == 6 ? 1 : 0;
            case 4:
            case 5: return wide.contains(number) ? 1 : 0;
            case 6: return isTable(unit) ? 0 : 1;
            default: return 0;
        }
    }

    int outcome(int i) {
        if (wide == null) {
            return Due.ILLEGAL_STATE;
        }
        int left = i;
        for (byte[] piece : pieces) {
            if (left >= 0 && left < piece.length) {
                return piece[left] & 255;
            }
            left -= piece.length;
        }
        return Due.NO_SUCH_INDEX;
    }

    private int codeBytes() {
        return addresses(pieces)[units.size()];
    }

    private int locals() {
        int locals = 0;
        for (Unit unit : units) {
            locals = unit.sort == 2 || unit.sort == 3 ? Math.max(locals, unit.a + 1) : locals;
        }
        return locals;
    }

    int member(boolean alone, int single, int twice) {
        if (Math.min(single, twice) < 0 || Math.max(single, twice) > 300) {
            return BAD;
        }
        if (members.size() == 20) {
            return FULL;
        }
        members.add((alone ? 0 : 1) + single + twice + twice);
        return members.size() - 1;
    }

    int check(int what) {
        return what == 0 || what == 1 ? firstBound()[what] : BAD;
    }

    private int[] firstBound() {
        if (nextPlace - 1 > limits[0]) {
            return new int[] {1, nextPlace - 1};
        }
        for (Map.Entry<Integer, Constant> entry : constants.entrySet()) {
            if (entry.getValue().sort == 3 && signBytes(entry.getValue()) > limits[1]) {
                return new int[] {2, entry.getKey()};
            }
        }
        if (widen() == NOT) {
            return new int[] {3, looseLabel()};
        }
        if (codeBytes() == 0 || codeBytes() > limits[2]) {
            return new int[] {4, codeBytes()};
        }
        if (locals() > limits[4]) {
            return new int[] {5, locals()};
        }
        for (int i = 0; i < members.size(); i++) {
            if (members.get(i) > limits[5]) {
                return new int[] {6, i};
            }
        }
        return new int[] {0, 0};
    }

    int count(int what) {
        switch (what) {
            case 0: return places.size();
            case 1: return nextPlace;
            case 2: return places.keySet().stream().mapToInt(Model::bytes).sum();
            case 3: return units.size();
            case 4: return labels.size();
            case 5: return members.size();
            case 6: return row.length();
            case 7: return keys.size();
            case 8: return wide == null ? NOT : codeBytes();
            case 9: return locals();
            default: return BAD;
        }
    }
}
