import java.util.ArrayList;
import java.util.List;

/** Maps, patterns and words that are made of one another: they are as if told, and all are kept. */
public final class MadeTest {
    private static final Check CHECK = new Check();

    public static void main(String[] args) {
        patternsOfWords();
        mapsOfPatternsOfWords();
        productsOfProducts();
        patternsOfProducts();
        numberedTogether();
        keptToTheLast();
        CHECK.end();
    }

    private static List<String> greatestWords() {
        List<String> all = new ArrayList<>();
        for (int letters = 1; letters <= 7; letters++) {
            for (int set = 0; set < 1 << letters; set++) {
                String text = WordOracle.text(letters, set);
                if (WordOracle.isGreatest(text)) {
                    all.add(text);
                }
            }
        }
        return all;
    }

    private static int tell(Kneadery x, String text) {
        int set = 0;
        for (int i = 0; i < text.length() - 1; i++) {
            set |= text.charAt(i) == 'R' ? 1 << i : 0;
        }
        return x.word(text.length() - 1, set);
    }

    private static void dueText(int promise, Kneadery x, int word, String want) {
        for (int i = 0; i < want.length(); i++) {
            int place = i;
            CHECK.due(promise, "letter " + place + " of " + want, want.charAt(place), () -> x.letter(word, place));
        }
        CHECK.throwing(promise, "behind the C of " + want, Check.INDEX, () -> x.letter(word, want.length()));
    }

    /** The pattern that is made of a word, and the one that is told by the same digits. */
    private static void patternsOfWords() {
        for (String word : greatestWords()) {
            Kneadery x = new Kneadery();
            tell(x, word);
            int digits = WordOracle.imagesOf(word);
            String images = Integer.toString(digits);
            CHECK.due(23, "patternOf " + word, 0, () -> x.patternOf(0));
            CHECK.due(9, "its digits are a pattern", 1, () -> x.pattern(digits));
            for (int pattern = 0; pattern < 2; pattern++) {
                int p = pattern;
                CHECK.due(10, "images of " + word, digits, () -> x.images(p));
                for (int piece = 1; piece < images.length(); piece++) {
                    for (int other = 1; other < images.length(); other++) {
                        int from = piece;
                        int to = other;
                        long want = Check.one(PatternOracle.covers(images, from, to));
                        CHECK.due(11, images + ", " + from + " " + to, want, () -> Check.one(x.covers(p, from, to)));
                    }
                }
                CHECK.due(12, "ways of " + images, PatternOracle.ways(images, 20), () -> x.ways(p, 20));
                for (int n = 1; n <= 6; n++) {
                    int k = n;
                    int want = PatternOracle.loops(images, n);
                    CHECK.due(13, "loops of " + images, want, () -> x.loops(p, k));
                    CHECK.due(14, "loops of " + images + " anew", want, () -> x.loopsAnew(p, k));
                }
            }
        }
    }

    /** Each point goes through all of them; half way between two points the map is as the oracle's. */
    private static void mapsOfPatternsOfWords() {
        for (String word : greatestWords()) {
            Kneadery x = new Kneadery();
            x.squared(0, 1);
            tell(x, word);
            String images = Integer.toString(WordOracle.imagesOf(word));
            int points = images.length();
            CHECK.due(23, "patternOf " + word, 0, () -> x.patternOf(0));
            CHECK.due(5, "mapOf it", 1, () -> x.mapOf(0));
            MapOracle oracle = new MapOracle();
            for (int k = 1; k <= points; k++) {
                int at = k;
                oracle.node(at, 1, images.charAt(at - 1) - '0', 1);
                CHECK.due(5, "the image of " + at, images.charAt(at - 1) - '0', () -> x.point(1, at, 1, 1, false));
                CHECK.due(5, "the period of " + at, points, () -> x.orbit(1, at, 1, 2));
            }
            for (int p = 2; p <= 3 * points + 1; p++) {
                int from = p;
                oracle.run(from, 3);
                for (int what = 0; what <= 3; what++) {
                    int asked = what;
                    CHECK.due(5, images + " from " + p + "/3", oracle.told(what), () -> x.orbit(1, from, 3, asked));
                }
            }
            if (points < 8) {
                CHECK.due(3, "a further node", points + 1, () -> x.node(1, 9, 1, 1, 1));
                oracle.node(9, 1, 1, 1).run(17, 2);
                CHECK.due(6, "from 17/2 now", oracle.told(1), () -> x.orbit(1, 17, 2, 1));
            } else {
                CHECK.throwing(3, "a ninth node", Check.STATE, () -> x.node(1, 9, 1, 1, 1));
            }
        }
    }

    private static void productsOfProducts() {
        String[][] rows = {{"RC", "RC", "RC"}, {"RC", "RLC", "C"}, {"RC", "RC", "RLC"}, {"RLC", "RC", "RC"},
            {"LC", "RC", "LC"}, {"C", "RC", "LLRC"}, {"RRC", "LC", "RLC"}, {"RLRC", "RC", "RLC"}};
        for (String[] r : rows) {
            Kneadery x = new Kneadery();
            for (String text : r) {
                tell(x, text);
            }
            String left = WordOracle.product(r[0], r[1]);
            String right = WordOracle.product(r[1], r[2]);
            CHECK.due(21, r[0] + " " + r[1], 3, () -> x.product(0, 1));
            CHECK.due(21, r[1] + " " + r[2], 4, () -> x.product(1, 2));
            CHECK.due(21, left + " " + r[2], 5, () -> x.product(3, 2));
            CHECK.due(21, r[0] + " " + right, 6, () -> x.product(0, 4));
            dueText(21, x, 3, left);
            dueText(21, x, 4, right);
            dueText(21, x, 5, WordOracle.product(left, r[2]));
            dueText(21, x, 6, WordOracle.product(r[0], right));
            for (int word = 3; word <= 6; word++) {
                int w = word;
                String text = new String[] {left, right, WordOracle.product(left, r[2]),
                    WordOracle.product(r[0], right)}[word - 3];
                CHECK.due(22, "factor of " + text, WordOracle.factor(text), () -> x.factor(w));
                CHECK.due(18, "isGreatest " + text, Check.one(WordOracle.isGreatest(text)),
                        () -> Check.one(x.isGreatest(w)));
                CHECK.due(17, "compare " + left + " " + text, WordOracle.order(left, text), () -> x.compare(3, w));
            }
        }
    }

    private static void patternsOfProducts() {
        Kneadery x = new Kneadery();
        tell(x, "RC");
        tell(x, "RLC");
        tell(x, "LC");
        x.product(0, 0);
        x.product(0, 3);
        x.product(0, 1);
        x.product(1, 0);
        x.product(0, 2);
        int[][] due = {{3, 3421}, {4, 56874321}, {5, 465321}, {6, 345621}};
        for (int i = 0; i < due.length; i++) {
            int k = i;
            CHECK.due(23, "patternOf the word " + due[k][0], k, () -> x.patternOf(due[k][0]));
            CHECK.due(23, "its images", due[k][1], () -> x.images(k));
        }
        CHECK.throwing(23, "RRRC is not greatest", Check.STATE, () -> x.patternOf(7));
        x.product(3, 3);
        CHECK.throwing(23, "15 letters are too many", Check.STATE, () -> x.patternOf(8));
    }

    /** Whether told or made, the next one gets the next number. */
    private static void numberedTogether() {
        Kneadery x = new Kneadery();
        CHECK.due(15, "a word", 0, () -> x.word(1, 1));
        CHECK.due(21, "a product", 1, () -> x.product(0, 0));
        CHECK.due(15, "a word behind it", 2, () -> x.word(2, 1));
        CHECK.due(23, "a pattern of a word", 0, () -> x.patternOf(2));
        CHECK.due(9, "a pattern behind it", 1, () -> x.pattern(21));
        CHECK.due(23, "a pattern of a product", 2, () -> x.patternOf(1));
        CHECK.due(2, "a map", 0, () -> x.straight());
        CHECK.due(5, "a map of a pattern", 1, () -> x.mapOf(2));
        CHECK.due(4, "a squared map behind it", 2, () -> x.squared(-2, 1));
        CHECK.due(2, "a straight map behind it", 3, () -> x.straight());
        CHECK.due(10, "the first pattern", 231, () -> x.images(0));
        CHECK.due(10, "the last pattern", 3421, () -> x.images(2));
        CHECK.due(6, "the map of it", 4, () -> x.orbit(1, 1, 1, 2));
    }

    /** With all that can be kept, each is still what it was when it was told or made. */
    private static void keptToTheLast() {
        Kneadery x = new Kneadery();
        Model model = new Model();
        for (int i = 0; i < 10; i++) {
            int k = i;
            CHECK.due(15, "word " + k, model.word(k % 5, 0x2d * k & ~2 | 1),
                    () -> x.word(k % 5, 0x2d * k & ~2 | 1));
        }
        for (int i = 10; i < 30; i++) {
            int k = i;
            CHECK.due(21, "product " + k, model.product(k % 7, k % 3), () -> x.product(k % 7, k % 3));
        }
        int[] told = {21, 231, 2413, 654213, 87653214, 23451, 312, 35421};
        for (int images : told) {
            CHECK.due(9, "pattern " + images, model.pattern(images), () -> x.pattern(images));
        }
        for (int i = 0; i < 4; i++) {
            int word = i % 2 + 1;
            CHECK.due(23, "patternOf " + word, model.patternOf(word), () -> x.patternOf(word));
        }
        for (int i = 0; i < 12; i++) {
            int k = i;
            CHECK.due(5, "map " + k, k % 3 == 0 ? model.squared(k - 12, 4) : model.mapOf(k),
                    () -> k % 3 == 0 ? x.squared(k - 12, 4) : x.mapOf(k));
        }
        for (int word = 0; word < 30; word++) {
            int w = word;
            for (int place = 0; place <= model.letters(word); place++) {
                int at = place;
                CHECK.due(16, "letter " + at + " of the word " + w, model.letter(w, at), () -> x.letter(w, at));
            }
        }
        for (int i = 0; i < 12; i++) {
            int k = i;
            CHECK.due(10, "images of " + k, model.images(k), () -> x.images(k));
            for (int p = 1; p <= 4; p++) {
                int from = p;
                CHECK.due(6, "points from " + p + "/2 of the map " + k, model.orbit(k, from, 2, 1),
                        () -> x.orbit(k, from, 2, 1));
                CHECK.due(7, "the point 0 from " + p, model.point(k, from, 2, 0, true),
                        () -> x.point(k, from, 2, 0, true));
            }
        }
    }
}
