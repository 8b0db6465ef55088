import java.util.ArrayList;
import java.util.List;

/** Promises 15 to 23: words. */
public final class WordsTest {
    private static final Check CHECK = new Check();

    public static void main(String[] args) {
        wordWrong();
        wordLimit();
        letters();
        askedWrong();
        compareAll();
        compareLong();
        greatest();
        counts();
        productsByHand();
        productLimits();
        productsMixed();
        factorsByHand();
        factorsMixed();
        patternOfWrong();
        patternOfAll();
        CHECK.end();
    }

    private static int tell(Kneadery x, String text) {
        int set = 0;
        for (int i = 0; i < text.length() - 1; i++) {
            set |= text.charAt(i) == 'R' ? 1 << i : 0;
        }
        return x.word(text.length() - 1, set);
    }

    private static void dueText(int promise, String name, Kneadery x, int word, String want) {
        for (int i = 0; i < want.length(); i++) {
            int place = i;
            CHECK.due(promise, name + " letter " + i, want.charAt(i), () -> x.letter(word, place));
        }
        CHECK.throwing(promise, name + " behind its C", Check.INDEX, () -> x.letter(word, want.length()));
    }

    private static void wordWrong() {
        Kneadery x = new Kneadery();
        int[] wrong = {-1, 25, 30, 32, Check.LOWEST, Check.HIGHEST};
        for (int w : wrong) {
            CHECK.throwing(15, "word(" + w + ", 0)", Check.ARGUMENT, () -> x.word(w, 0));
            CHECK.throwing(15, "word(" + w + ", -1)", Check.ARGUMENT, () -> x.word(w, -1));
        }
        CHECK.due(15, "word(24, -1)", 0, () -> x.word(24, -1));
        CHECK.due(15, "word(0, -1)", 1, () -> x.word(0, -1));
    }

    private static void wordLimit() {
        Kneadery x = new Kneadery();
        for (int i = 0; i < 30; i++) {
            int k = i;
            CHECK.due(15, "word", k, () -> x.word(k % 25, k));
        }
        CHECK.throwing(15, "a word of 31", Check.STATE, () -> x.word(1, 1));
        CHECK.throwing(15, "a word of 31 with 25 letters", Check.ARGUMENT, () -> x.word(25, 1));
        CHECK.throwing(21, "a product of 31", Check.STATE, () -> x.product(0, 0));
        CHECK.throwing(21, "a product of 31, no word", Check.INDEX, () -> x.product(0, 30));
        CHECK.throwing(16, "letter(30, 0)", Check.INDEX, () -> x.letter(30, 0));
        CHECK.due(16, "letter(29, 0)", 'R', () -> x.letter(29, 0));
        CHECK.due(9, "patterns are apart from words", 0, () -> x.pattern(21));
        Kneadery y = new Kneadery();
        for (int i = 0; i < 29; i++) {
            y.word(2, i);
        }
        CHECK.due(21, "the last one is a product", 29, () -> y.product(1, 2));
        CHECK.throwing(15, "a word behind it", Check.STATE, () -> y.word(0, 0));
    }

    private static void letters() {
        Kneadery x = new Kneadery();
        int[][] told = {{0, 0}, {0, 5}, {1, 0}, {1, 1}, {1, 2}, {2, 1}, {2, -1}, {3, 0b11010}, {24, 0}, {24, -1},
            {24, 0b101100111000111101010011}, {24, 0x7f800001}, {23, Check.LOWEST}, {5, Check.HIGHEST}};
        for (int i = 0; i < told.length; i++) {
            x.word(told[i][0], told[i][1]);
            String want = WordOracle.text(told[i][0], told[i][1]);
            dueText(16, "word(" + told[i][0] + ", " + told[i][1] + ")", x, i, want);
        }
        int[] places = {-1, 25, Check.LOWEST, Check.HIGHEST};
        for (int place : places) {
            CHECK.throwing(16, "letter(8, " + place + ")", Check.INDEX, () -> x.letter(8, place));
        }
        // Bits behind do not matter: the words are the same.
        CHECK.due(17, "compare(0, 1)", 0, () -> x.compare(0, 1));
        CHECK.due(17, "compare(2, 4)", 0, () -> x.compare(2, 4));
    }

    private static void askedWrong() {
        Kneadery x = new Kneadery();
        x.word(2, 1);
        int[] none = {-1, 1, 30, Check.LOWEST, Check.HIGHEST};
        for (int w : none) {
            CHECK.throwing(16, "letter(" + w + ", 0)", Check.INDEX, () -> x.letter(w, 0));
            CHECK.throwing(17, "compare(" + w + ", 0)", Check.INDEX, () -> x.compare(w, 0));
            CHECK.throwing(17, "compare(0, " + w + ")", Check.INDEX, () -> x.compare(0, w));
            CHECK.throwing(17, "compare twice " + w, Check.INDEX, () -> x.compare(w, w));
            CHECK.throwing(18, "isGreatest(" + w + ")", Check.INDEX, () -> Check.one(x.isGreatest(w)));
            CHECK.throwing(21, "product(" + w + ", 0)", Check.INDEX, () -> x.product(w, 0));
            CHECK.throwing(21, "product(0, " + w + ")", Check.INDEX, () -> x.product(0, w));
            CHECK.throwing(22, "factor(" + w + ")", Check.INDEX, () -> x.factor(w));
            CHECK.throwing(23, "patternOf(" + w + ")", Check.INDEX, () -> x.patternOf(w));
        }
        int[] counts = {-1, 10, 11, 24, 31, Check.LOWEST, Check.HIGHEST};
        for (int w : counts) {
            CHECK.throwing(19, "count(" + w + ")", Check.ARGUMENT, () -> x.count(w));
            CHECK.throwing(20, "countAnew(" + w + ")", Check.ARGUMENT, () -> x.countAnew(w));
        }
        CHECK.due(15, "none of all that is kept", 1, () -> x.word(0, 0));
    }

    /** All words of up to four letters, twenty at a time. */
    private static void compareAll() {
        List<String> all = new ArrayList<>();
        for (int letters = 0; letters <= 4; letters++) {
            for (int set = 0; set < 1 << letters; set++) {
                all.add(WordOracle.text(letters, set));
            }
        }
        for (String one : all) {
            Kneadery x = null;
            for (int i = 0; i < all.size(); i++) {
                if (i % 20 == 0) {
                    x = new Kneadery();
                    tell(x, one);
                }
                Kneadery y = x;
                String two = all.get(i);
                int other = tell(y, two);
                CHECK.due(17, "compare " + one + " " + two, WordOracle.order(one, two), () -> y.compare(0, other));
                CHECK.due(17, "compare " + two + " " + one, WordOracle.order(two, one), () -> y.compare(other, 0));
                CHECK.due(17, "compare " + two + " to itself", 0, () -> y.compare(other, other));
            }
        }
    }

    /** Long words that are alike up to a place. */
    private static void compareLong() {
        Numbers numbers = new Numbers(3);
        for (int i = 0; i < 300; i++) {
            Kneadery x = new Kneadery();
            int letters = numbers.between(15, 24);
            int set = numbers.between(0, (1 << letters) - 1);
            int otherLetters = i % 2 == 0 ? letters : numbers.between(10, 24);
            int other = set ^ (i % 3 == 0 ? 0 : 1 << numbers.between(0, 23));
            String one = WordOracle.text(letters, set);
            String two = WordOracle.text(otherLetters, other);
            x.word(letters, set);
            x.word(otherLetters, other);
            CHECK.due(17, "compare " + one + " " + two, WordOracle.order(one, two), () -> x.compare(0, 1));
            CHECK.due(17, "compare " + two + " " + one, WordOracle.order(two, one), () -> x.compare(1, 0));
        }
    }

    private static void greatest() {
        String[] are = {"C", "RC", "LC", "RLC", "RLRC", "RLLC", "RLLLLLLLLLLLLLLLLLLLLLLLC", "RLRRC", "RLRRRC"};
        for (String word : are) {
            Kneadery x = new Kneadery();
            tell(x, word);
            long want = Check.one(WordOracle.isGreatest(word));
            CHECK.due(18, "isGreatest " + word, want, () -> Check.one(x.isGreatest(0)));
        }
        Kneadery x = new Kneadery();
        x.word(0, 0);
        x.word(1, 0);
        x.word(1, 1);
        x.word(24, 1);
        x.word(24, 0x800001);
        CHECK.due(18, "C", 1, () -> Check.one(x.isGreatest(0)));
        CHECK.due(18, "LC is below C", 0, () -> Check.one(x.isGreatest(1)));
        CHECK.due(18, "RC", 1, () -> Check.one(x.isGreatest(2)));
        CHECK.due(18, "R, 23 L and C", 1, () -> Check.one(x.isGreatest(3)));
        CHECK.due(18, "R, 22 L, R and C", 1, () -> Check.one(x.isGreatest(4)));
        for (int letters = 0; letters <= 10; letters++) {
            for (int set = 0; set < 1 << letters; set++) {
                Kneadery y = new Kneadery();
                String word = WordOracle.text(letters, set);
                y.word(letters, set);
                long want = Check.one(WordOracle.isGreatest(word));
                CHECK.due(18, "isGreatest " + word, want, () -> Check.one(y.isGreatest(0)));
            }
        }
        Numbers numbers = new Numbers(8);
        for (int i = 0; i < 3000; i++) {
            Kneadery y = new Kneadery();
            int letters = numbers.between(11, 24);
            int set = numbers.between(0, 1 << 24) & (i % 2 == 0 ? -1 << 3 : -1) | (i % 2 == 0 ? 1 : 0);
            String word = WordOracle.text(letters, set);
            y.word(letters, set);
            long want = Check.one(WordOracle.isGreatest(word));
            CHECK.due(18, "isGreatest " + word, want, () -> Check.one(y.isGreatest(0)));
        }
    }

    private static void counts() {
        Kneadery x = new Kneadery();
        int[] due = {1, 1, 1, 2, 3, 5, 9, 16, 28, 51};
        for (int letters = 0; letters <= 9; letters++) {
            int k = letters;
            CHECK.due(19, "the test's own count of " + letters, due[k], () -> WordOracle.count(k));
            CHECK.due(19, "count(" + letters + ")", due[k], () -> x.count(k));
            CHECK.due(20, "countAnew(" + letters + ")", due[k], () -> x.countAnew(k));
        }
        CHECK.due(15, "counting tells no words", 0, () -> x.word(1, 1));
    }

    private static void productsByHand() {
        String[][] rows = {{"RC", "RC", "RLRC"}, {"RC", "RLC", "RLRRRC"}, {"RLC", "RC", "RLLRLC"}, {"C", "RLC", "RLC"},
            {"RLC", "C", "RLC"}, {"C", "C", "C"}, {"RRC", "RLC", "RRRRRLRRC"}, {"LC", "LRC", "LLLRLC"}};
        for (String[] r : rows) {
            Kneadery x = new Kneadery();
            tell(x, r[0]);
            tell(x, r[1]);
            CHECK.due(21, "product " + r[0] + " " + r[1], 2, () -> x.product(0, 1));
            dueText(21, "product " + r[0] + " " + r[1], x, 2, r[2]);
            dueText(21, "the first one is as it was", x, 0, r[0]);
            dueText(21, "the second one is as it was", x, 1, r[1]);
        }
    }

    private static void productLimits() {
        for (int one = 0; one <= 24; one++) {
            for (int two = 0; two <= 24; two++) {
                Kneadery x = new Kneadery();
                x.word(one, 0x5a5a5a);
                x.word(two, 0x333333);
                String want = WordOracle.product(WordOracle.text(one, 0x5a5a5a), WordOracle.text(two, 0x333333));
                if (want.length() > 25) {
                    CHECK.throwing(21, "product of " + one + " and " + two, Check.STATE, () -> x.product(0, 1));
                    CHECK.due(21, "none is kept", 2, () -> x.word(0, 0));
                } else {
                    CHECK.due(21, "product of " + one + " and " + two, 2, () -> x.product(0, 1));
                    dueText(21, "product of " + one + " and " + two, x, 2, want);
                }
            }
        }
    }

    private static void productsMixed() {
        Numbers numbers = new Numbers(21);
        for (int i = 0; i < 1500; i++) {
            int one = numbers.between(0, 12);
            int two = numbers.between(0, Math.max(0, 25 / (one + 1) - 1));
            int set = numbers.between(0, (1 << one) - 1);
            int other = numbers.between(0, (1 << two) - 1);
            Kneadery x = new Kneadery();
            x.word(one, set);
            x.word(two, other);
            String first = WordOracle.text(one, set);
            String second = WordOracle.text(two, other);
            String want = WordOracle.product(first, second);
            CHECK.due(21, "product " + first + " " + second, 2, () -> x.product(0, 1));
            dueText(21, "product " + first + " " + second, x, 2, want);
            CHECK.due(22, "factor of " + want, WordOracle.factor(want), () -> x.factor(2));
        }
    }

    private static void factorsByHand() {
        Object[][] rows = {{"C", -1}, {"RC", -1}, {"LC", -1}, {"RLC", -1}, {"RRC", -1}, {"RLRC", 2}, {"RRRC", 2},
            {"RLLC", -1}, {"RRLC", -1}, {"RLLRLC", 3}, {"RLRLRC", 2}, {"RRLRLC", -1}, {"LLLLLC", 2}, {"RLLLRLLC", 4},
            {"RLRRRLRC", 2}, {"LLLLLLC", -1}, {"RLLLLRLLLC", 5}, {"RLLLLRLLRC", -1}};
        for (Object[] r : rows) {
            Kneadery x = new Kneadery();
            tell(x, (String) r[0]);
            CHECK.due(22, "factor of " + r[0], (Integer) r[1], () -> x.factor(0));
        }
    }

    private static void factorsMixed() {
        for (int letters = 0; letters <= 9; letters++) {
            for (int set = 0; set < 1 << letters; set++) {
                Kneadery x = new Kneadery();
                x.word(letters, set);
                String word = WordOracle.text(letters, set);
                CHECK.due(22, "factor of " + word, WordOracle.factor(word), () -> x.factor(0));
            }
        }
        Numbers numbers = new Numbers(33);
        for (int i = 0; i < 1500; i++) {
            // A block again and again, with any letters between, sometimes with one letter changed.
            int block = numbers.between(1, 11);
            int letters = (block + 1) * numbers.between(1, 25 / (block + 1)) - 1;
            int pattern = numbers.between(0, (1 << block) - 1);
            int set = 0;
            for (int place = 0; place < letters; place++) {
                int rest = place % (block + 1);
                set |= (rest == block ? numbers.between(0, 1) : pattern >> rest & 1) << place;
            }
            set ^= i % 4 == 0 ? 1 << numbers.between(0, letters - 1) : 0;
            Kneadery x = new Kneadery();
            x.word(letters, set);
            String word = WordOracle.text(letters, set);
            CHECK.due(22, "factor of " + word, WordOracle.factor(word), () -> x.factor(0));
        }
    }

    private static void patternOfWrong() {
        Kneadery x = new Kneadery();
        x.word(0, 0);
        x.word(1, 0);
        x.word(2, 3);
        x.word(8, 1);
        x.word(24, 1);
        x.word(7, 1);
        x.word(1, 1);
        for (int word = 0; word <= 4; word++) {
            int k = word;
            CHECK.throwing(23, "patternOf(" + k + ")", Check.STATE, () -> x.patternOf(k));
        }
        for (int i = 0; i < 12; i++) {
            int k = i;
            CHECK.due(23, "patternOf of 7 letters and 1", k, () -> x.patternOf(5 + k % 2));
        }
        CHECK.throwing(23, "a thirteenth pattern", Check.STATE, () -> x.patternOf(6));
        CHECK.throwing(23, "a thirteenth pattern, no word", Check.INDEX, () -> x.patternOf(7));
        CHECK.throwing(9, "a thirteenth pattern told", Check.STATE, () -> x.pattern(21));
        CHECK.due(10, "RC makes 21", 21, () -> x.images(1));
    }

    private static void patternOfAll() {
        Kneadery three = new Kneadery();
        tell(three, "RLC");
        tell(three, "RLRC");
        tell(three, "RLLC");
        three.patternOf(0);
        three.patternOf(1);
        three.patternOf(2);
        CHECK.due(10, "RLC", 231, () -> three.images(0));
        CHECK.due(10, "RLRC", 3421, () -> three.images(1));
        CHECK.due(10, "RLLC", 2341, () -> three.images(2));
        for (int letters = 1; letters <= 9; letters++) {
            for (int set = 0; set < 1 << letters; set++) {
                Kneadery x = new Kneadery();
                String word = WordOracle.text(letters, set);
                x.pattern(21);
                x.word(letters, set);
                if (letters > 7 || !WordOracle.isGreatest(word)) {
                    CHECK.throwing(23, "patternOf " + word, Check.STATE, () -> x.patternOf(0));
                    CHECK.due(23, "none is kept", 1, () -> x.pattern(21));
                } else {
                    CHECK.due(23, "patternOf " + word, 1, () -> x.patternOf(0));
                    CHECK.due(23, "images of " + word, WordOracle.imagesOf(word), () -> x.images(1));
                    CHECK.due(23, "the word is as it was", 'R', () -> x.letter(0, 0));
                }
            }
        }
    }
}
