import java.util.ArrayList;
import java.util.List;
import java.util.function.Consumer;
import java.util.function.ToIntFunction;

/**
 * Two objects that are made alike, one of which has a call more that must change nothing, being refused or only
 * asking: behind it all that can be asked, and all that can be done, answers the same of both. Each look at them has
 * objects of its own, for looks may change them and the calls of an object are 512.
 */
final class Twins {
    private Twins() {
    }

    /** The call answers so and changes nothing, where there is some of everything, widened and not widened. */
    static void unchanged(Due due, String sentence, ToIntFunction<Asked> call, int want) {
        unchanged(due, sentence, Made::loose, call, want);
        unchanged(due, sentence, Made::widened, call, want);
    }

    static void unchanged(Due due, String sentence, Consumer<Asked> made, ToIntFunction<Asked> call, int want) {
        Asked once = new Asked(due, sentence);
        made.accept(once);
        once.is(call.applyAsInt(once), want);
        changesNothing(due, sentence, made, call);
    }

    static void changesNothing(Due due, String sentence, Consumer<Asked> made, ToIntFunction<Asked> call) {
        for (Consumer<Asked> look : looks(due, sentence, made)) {
            Asked without = new Asked(due, sentence);
            made.accept(without);
            // In the place of the other's call, so that both have as many calls left.
            without.count(0);
            int from = without.made();
            look.accept(without);

            Asked with = new Asked(due, sentence);
            made.accept(with);
            call.applyAsInt(with);
            look.accept(with);
            String difference = firstDifference(with.callsFrom(from), without.callsFrom(from));
            due.same("'" + sentence + "': behind " + with.callsFrom(from - 1).get(0) + difference,
                    difference.isEmpty() ? 0 : 1, 0);
        }
    }

    private static String firstDifference(List<String> with, List<String> without) {
        for (int i = 0; i < Math.min(with.size(), without.size()); i++) {
            if (!with.get(i).equals(without.get(i))) {
                return ", " + with.get(i) + ", and without it " + without.get(i);
            }
        }
        return with.size() == without.size() ? "" : ", there are more or fewer calls";
    }

    private static List<Consumer<Asked>> looks(Due due, String sentence, Consumer<Asked> made) {
        Asked a = new Asked(due, sentence);
        made.accept(a);
        int callsLeft = a.left() - 1;
        List<Consumer<Asked>> looks = pieces(questions(a), callsLeft);
        looks.add(Twins::limits);
        looks.add(Twins::row);
        looks.add(Twins::constants);
        looks.add(Twins::nextOnes);
        looks.add(Twins::bounds);
        looks.add(Twins::rounds);
        looks.add(Twins::labels);
        looks.add(Twins::keys);
        looks.add(Twins::members);
        return looks;
    }

    /** All calls that only ask. */
    private static List<Consumer<Asked>> questions(Asked made) {
        int places = made.count(1), units = made.count(3), bytes = made.count(8);
        List<Consumer<Asked>> questions = new ArrayList<>();
        for (int i = 0; i < 10; i++) {
            int what = i;
            questions.add(a -> a.count(what));
        }
        for (int i = 0; i < 4 * (places + 1); i++) {
            int place = i / 4, what = i % 4;
            questions.add(a -> a.told(place, what));
        }
        for (int i = 0; i < 4 * (units + 1); i++) {
            int unit = i / 4, what = i % 4;
            questions.add(a -> a.of(unit, what));
        }
        for (int i = -1; i <= Math.max(0, bytes); i++) {
            int index = i;
            questions.add(a -> a.out(index));
        }
        return questions;
    }

    private static List<Consumer<Asked>> pieces(List<Consumer<Asked>> questions, int most) {
        List<Consumer<Asked>> pieces = new ArrayList<>();
        for (int from = 0; from < questions.size(); from += most) {
            List<Consumer<Asked>> piece = questions.subList(from, Math.min(from + most, questions.size()));
            pieces.add(a -> piece.forEach(question -> question.accept(a)));
        }
        return pieces;
    }

    private static void limits(Asked a) {
        for (int what = 0; what < 6; what++) {
            a.limit(what, 1);
        }
    }

    /** The signs of Made's rows, once more, are the same text if they are still what they were. */
    private static void row(Asked a) {
        a.text();
        a.count(2);
        a.textOf(98, 99);
        a.textOf(98);
        a.count(0);
    }

    /** Constants that are there are told by their places if they are still what they were. */
    private static void constants(Asked a) {
        for (int sort = 0; sort < 3; sort++) {
            a.number(sort, 7);
        }
        a.textOf(97, 2048);
        a.textOf(97);
        a.textOf();
        a.count(0);
    }

    private static void nextOnes(Asked a) {
        a.number(1, 123456789);
        a.member(true, 0, 0);
        a.sign(5);
        a.key(9, 0);
        a.label();
        a.unit(2, 600, 0);
        for (int what = 0; what < 10; what++) {
            a.count(what);
        }
    }

    private static void bounds(Asked a) {
        a.check(0);
        a.check(1);
        a.count(8);
    }

    private static void rounds(Asked a) {
        a.widen();
        a.count(8);
    }

    private static void putAll(Asked a) {
        int labels = a.count(4);
        for (int label = 0; label < labels; label++) {
            a.put(label);
        }
    }

    private static void labels(Asked a) {
        putAll(a);
        a.widen();
        for (int unit = 0; unit < 150 && a.left() > 0; unit++) {
            a.of(unit, 3);
        }
    }

    /** They are seen by the bytes of a choice that is made of them. */
    private static void keys(Asked a) {
        int unit = a.choice(0);
        putAll(a);
        a.widen();
        a.of(unit, 1);
        int from = Math.max(0, a.of(unit, 0)), bytes = a.of(unit, 2);
        for (int i = 0; i < bytes && a.left() > 0; i++) {
            a.out(from + i);
        }
    }

    /** Their places are seen by the limit that they break, when no other one is broken. */
    private static void members(Asked a) {
        a.limit(0, 65535);
        a.limit(1, 65535);
        a.limit(2, 65535);
        a.limit(4, 65535);
        putAll(a);
        for (int places : new int[] {0, 1, 2, 3, 7, 8, 9, 18, 19, 20, 254, 255}) {
            a.limit(5, places);
            a.check(0);
            a.check(1);
        }
    }
}
