/** The boundary cases of promises 15 to 23, one test for each sentence that names one. */
public final class WordBoundsTest {
    private static final Check CHECK = new Check();
    private static final int[] NONE_OF_TWO = {-1, 2, 3, 29, 30, 31, Check.LOWEST, Check.HIGHEST};
    private static final int[] PLACES_BEHIND = {-1, Check.LOWEST, Check.HIGHEST};

    public static void main(String[] args) {
        wordLeastAndGreatest();
        wordJustOutside();
        wordBitsBehind();
        wordUpToThirty();
        letterOfNoSuchWord();
        letterOfNoSuchPlace();
        letterOfAllPlaces();
        compareNoSuchWords();
        compareAtTheFirstPlace();
        compareBehindLettersR();
        compareAtTheLastPlace();
        compareTheSame();
        greatestOfNoSuchWord();
        greatestWithoutLetters();
        greatestByOneTail();
        countLeastAndGreatest();
        countJustOutside();
        productOfNoSuchWords();
        productWithoutLetters();
        productUpToTwentyFour();
        productUpToThirty();
        productChangesLetters();
        productWhichException();
        factorOfNoSuchWord();
        factorOfTheShortest();
        factorOfTheLongest();
        factorIsTheLeast();
        patternOfNoSuchWord();
        patternOfLeastAndGreatest();
        patternOfRefused();
        patternOfUpToTwelve();
        CHECK.end();
    }

    private static int tell(Kneadery x, String text) {
        int set = 0;
        for (int i = 0; i < text.length() - 1; i++) {
            set |= text.charAt(i) == 'R' ? 1 << i : 0;
        }
        return x.word(text.length() - 1, set);
    }

    private static Kneadery told(String... texts) {
        Kneadery x = new Kneadery();
        for (String text : texts) {
            tell(x, text);
        }
        return x;
    }

    private static void dueText(int promise, Kneadery x, int word, String want) {
        for (int i = 0; i < want.length(); i++) {
            int place = i;
            CHECK.due(promise, "letter " + place + " of " + want, want.charAt(place), () -> x.letter(word, place));
        }
        CHECK.throwing(promise, "behind the C of " + want, Check.INDEX, () -> x.letter(word, want.length()));
    }

    private static String row(char sign, int times) {
        return String.valueOf(sign).repeat(times);
    }

    // ---- promise 15

    private static void wordLeastAndGreatest() {
        Kneadery x = new Kneadery();
        CHECK.due(15, "word(0, 0)", 0, () -> x.word(0, 0));
        CHECK.due(15, "word(24, 0)", 1, () -> x.word(24, 0));
        CHECK.due(15, "word(24, all)", 2, () -> x.word(24, (1 << 24) - 1));
        CHECK.due(15, "word(24, the last one)", 3, () -> x.word(24, 1 << 23));
        CHECK.due(15, "word(1, 1)", 4, () -> x.word(1, 1));
        CHECK.due(15, "word(23, the first one)", 5, () -> x.word(23, 1));
        dueText(15, x, 0, "C");
        dueText(15, x, 1, row('L', 24) + "C");
        dueText(15, x, 2, row('R', 24) + "C");
        dueText(15, x, 3, row('L', 23) + "RC");
        dueText(15, x, 4, "RC");
        dueText(15, x, 5, "R" + row('L', 22) + "C");
    }

    private static void wordJustOutside() {
        Kneadery x = new Kneadery();
        for (int letters : new int[] {-1, -2, 25, 26, 31, 32, 33, Check.LOWEST, Check.HIGHEST}) {
            for (int set : new int[] {0, 1, -1, Check.LOWEST, Check.HIGHEST}) {
                CHECK.throwing(15, "word(" + letters + ", " + set + ")", Check.ARGUMENT, () -> x.word(letters, set));
            }
        }
        CHECK.due(15, "none of them is a word", 0, () -> x.word(0, 0));
    }

    private static void wordBitsBehind() {
        Kneadery x = new Kneadery();
        int[][] rows = {{0, -1}, {0, 1}, {1, 2}, {1, -1}, {2, 4}, {2, -4}, {24, 1 << 24}, {24, -1}, {24, Check.LOWEST},
            {24, Check.HIGHEST}, {23, 1 << 23}};
        String[] due = {"C", "C", "LC", "RC", "LLC", "LLC", row('L', 24) + "C", row('R', 24) + "C", row('L', 24) + "C",
            row('R', 24) + "C", row('L', 23) + "C"};
        for (int i = 0; i < rows.length; i++) {
            int k = i;
            CHECK.due(15, "word(" + rows[k][0] + ", " + rows[k][1] + ")", k, () -> x.word(rows[k][0], rows[k][1]));
            dueText(15, x, k, due[k]);
        }
        CHECK.due(17, "both are C", 0, () -> x.compare(0, 1));
        CHECK.due(17, "both are L and C twice", 0, () -> x.compare(4, 5));
        CHECK.due(22, "bits behind make no factor", 2, () -> x.factor(10));
    }

    private static void wordUpToThirty() {
        Kneadery x = new Kneadery();
        for (int i = 0; i < 30; i++) {
            int k = i;
            CHECK.due(15, "word " + k, k, () -> x.word(5, k));
        }
        CHECK.throwing(15, "word 30", Check.STATE, () -> x.word(5, 0));
        CHECK.throwing(15, "word 30 again", Check.STATE, () -> x.word(0, 0));
        CHECK.throwing(15, "word 30 of 25 letters", Check.ARGUMENT, () -> x.word(25, 0));
        CHECK.throwing(15, "word 30 of -1 letters", Check.ARGUMENT, () -> x.word(-1, 0));
        dueText(15, x, 0, "LLLLLC");
        dueText(15, x, 29, "RLRRRC");
        CHECK.throwing(16, "there is no word 30", Check.INDEX, () -> x.letter(30, 0));
    }

    // ---- promise 16

    private static void letterOfNoSuchWord() {
        Kneadery x = told("RC", "RLC");
        for (int word : NONE_OF_TWO) {
            CHECK.throwing(16, "letter(" + word + ", 0)", Check.INDEX, () -> x.letter(word, 0));
            CHECK.throwing(16, "letter(" + word + ", -1)", Check.INDEX, () -> x.letter(word, -1));
            CHECK.throwing(16, "letter(" + word + ", 25)", Check.INDEX, () -> x.letter(word, 25));
        }
        CHECK.due(16, "the first word", 'R', () -> x.letter(0, 0));
        CHECK.due(16, "the last word", 'L', () -> x.letter(1, 1));
    }

    /** The C is at the last place. */
    private static void letterOfNoSuchPlace() {
        Kneadery x = told("C", "RC", "RLLC", row('R', 24) + "C");
        int[] letters = {0, 1, 3, 24};
        for (int i = 0; i < 4; i++) {
            int word = i;
            int last = letters[i];
            CHECK.due(16, "the C of " + last, 'C', () -> x.letter(word, last));
            CHECK.throwing(16, "behind the C of " + last, Check.INDEX, () -> x.letter(word, last + 1));
            for (int place : PLACES_BEHIND) {
                CHECK.throwing(16, "letter(" + word + ", " + place + ")", Check.INDEX, () -> x.letter(word, place));
            }
        }
    }

    private static void letterOfAllPlaces() {
        String text = "RLLRLRRLLLRRLRLRLLRRRLLRC";
        dueText(16, told(text), 0, text);
        dueText(16, told("LC"), 0, "LC");
    }

    // ---- promise 17

    private static void compareNoSuchWords() {
        Kneadery x = told("RC", "RLC");
        for (int word : NONE_OF_TWO) {
            CHECK.throwing(17, "compare(" + word + ", 0)", Check.INDEX, () -> x.compare(word, 0));
            CHECK.throwing(17, "compare(1, " + word + ")", Check.INDEX, () -> x.compare(1, word));
            CHECK.throwing(17, "compare twice " + word, Check.INDEX, () -> x.compare(word, word));
        }
        CHECK.due(17, "the first one to the last one", -1, () -> x.compare(0, 1));
    }

    /** The second one is above. */
    private static void above(String low, String high) {
        Kneadery x = told(low, high);
        CHECK.due(17, low + " to " + high, -1, () -> x.compare(0, 1));
        CHECK.due(17, high + " to " + low, 1, () -> x.compare(1, 0));
    }

    private static void compareAtTheFirstPlace() {
        above("LC", "C");
        above("C", "RC");
        above("LC", "RC");
        above("L" + row('R', 23) + "C", "C");
        above("C", row('R', 24) + "C");
        above(row('L', 24) + "C", "RC");
    }

    /** The other way round, if the number of letters R ahead is odd; the R at the place itself does not count. */
    private static void compareBehindLettersR() {
        above("RC", "RLC");
        above("RRC", "RC");
        above("RRC", "RLC");
        above("RRLC", "RRC");
        above("RRC", "RRRC");
        above("RRLC", "RRRC");
        above("RRRC", "RRRLC");
        above("LLC", "LC");
        above("LC", "LRC");
        above("LRC", "LRLC");
        above("RLC", "RLLC");
        above("RLRC", "RLC");
    }

    private static void compareAtTheLastPlace() {
        above(row('L', 24) + "C", row('L', 23) + "RC");
        above(row('L', 24) + "C", row('L', 23) + "C");
        above(row('L', 23) + "C", row('L', 23) + "RC");
        above(row('R', 23) + "RC", row('R', 23) + "LC");
        above(row('R', 23) + "RC", row('R', 23) + "C");
        above(row('R', 23) + "C", row('R', 23) + "LC");
        above("L" + row('R', 22) + "LC", "L" + row('R', 22) + "RC");
    }

    private static void compareTheSame() {
        for (String text : new String[] {"C", "LC", "RC", row('L', 24) + "C", row('R', 24) + "C"}) {
            Kneadery x = told(text, text);
            CHECK.due(17, text + " to itself", 0, () -> x.compare(0, 0));
            CHECK.due(17, text + " to the same word again", 0, () -> x.compare(0, 1));
        }
    }

    // ---- promise 18

    private static void greatest(String text, boolean want) {
        Kneadery x = told(text);
        CHECK.due(18, "isGreatest of " + text, Check.one(want), () -> Check.one(x.isGreatest(0)));
    }

    private static void greatestOfNoSuchWord() {
        Kneadery x = told("RC", "LC");
        for (int word : NONE_OF_TWO) {
            CHECK.throwing(18, "isGreatest(" + word + ")", Check.INDEX, () -> Check.one(x.isGreatest(word)));
        }
        CHECK.due(18, "the first word", 1, () -> Check.one(x.isGreatest(0)));
        CHECK.due(18, "the last word", 0, () -> Check.one(x.isGreatest(1)));
    }

    private static void greatestWithoutLetters() {
        greatest("C", true);
        greatest("LC", false);
        greatest("RC", true);
    }

    /** The tail behind the first letter is above, or only the one behind the last letter but one, or only C. */
    private static void greatestByOneTail() {
        greatest("RRC", false);
        greatest("RLC", true);
        greatest("RLRC", true);
        greatest("RLLC", true);
        greatest("RLRLC", false);
        greatest("RLRRC", true);
        greatest("RLLRLC", true);
        greatest("RLRRLC", false);
        greatest("R" + row('L', 23) + "C", true);
        greatest("R" + row('L', 22) + "RC", true);
        greatest(row('L', 24) + "C", false);
        greatest(row('R', 24) + "C", false);
        greatest("RL" + row('R', 22) + "C", true);
        greatest("RL" + row('R', 21) + "C", true);
        greatest("RL" + row('R', 20) + "LC", false);
    }

    // ---- promises 19 and 20

    private static void countLeastAndGreatest() {
        int[] due = {1, 1, 1, 2, 3, 5, 9, 16, 28, 51};
        Kneadery x = new Kneadery();
        for (int letters = 0; letters <= 9; letters++) {
            int k = letters;
            CHECK.due(19, "count(" + k + ")", due[k], () -> x.count(k));
            CHECK.due(20, "countAnew(" + k + ")", due[k], () -> x.countAnew(k));
        }
    }

    private static void countJustOutside() {
        Kneadery x = new Kneadery();
        for (int letters : new int[] {-1, -2, 10, 11, 24, 31, 32, Check.LOWEST, Check.HIGHEST}) {
            CHECK.throwing(19, "count(" + letters + ")", Check.ARGUMENT, () -> x.count(letters));
            CHECK.throwing(20, "countAnew(" + letters + ")", Check.ARGUMENT, () -> x.countAnew(letters));
        }
    }

    // ---- promise 21

    private static void product(String one, String two, String want) {
        Kneadery x = told(one, two);
        CHECK.due(21, "product of " + one + " and " + two, 2, () -> x.product(0, 1));
        dueText(21, x, 2, want);
        dueText(21, x, 0, one);
        dueText(21, x, 1, two);
    }

    private static void productOfNoSuchWords() {
        Kneadery x = told("RC", "RLC");
        for (int word : NONE_OF_TWO) {
            CHECK.throwing(21, "product(" + word + ", 0)", Check.INDEX, () -> x.product(word, 0));
            CHECK.throwing(21, "product(1, " + word + ")", Check.INDEX, () -> x.product(1, word));
            CHECK.throwing(21, "product twice " + word, Check.INDEX, () -> x.product(word, word));
        }
        CHECK.due(21, "the product of both is the next word", 2, () -> x.product(0, 1));
    }

    private static void productWithoutLetters() {
        product("C", "C", "C");
        product("C", "RLC", "RLC");
        product("RLC", "C", "RLC");
        product("C", row('R', 24) + "C", row('R', 24) + "C");
        product(row('R', 24) + "C", "C", row('R', 24) + "C");
        product(row('R', 23) + "C", "C", row('R', 23) + "C");
    }

    /** The letters of the product, and 1, are the letters of the one and 1 by those of the other one and 1. */
    private static void productUpToTwentyFour() {
        product("RLLRC", "RLRLC", "RLLR" + "R" + "RLLR" + "L" + "RLLR" + "R" + "RLLR" + "L" + "RLLR" + "C");
        product("RC", row('R', 11) + "C", row('R', 1) + "LR".repeat(11) + "C");
        product(row('L', 11) + "C", "RC", row('L', 11) + "R" + row('L', 11) + "C");
        int[][] justBehind = {{1, 12}, {12, 1}, {24, 1}, {1, 24}, {24, 24}, {4, 5}, {5, 4}, {2, 8}, {8, 2}, {3, 6},
            {6, 3}};
        for (int[] j : justBehind) {
            Kneadery x = told(row('R', j[0]) + "C", row('L', j[1]) + "C");
            CHECK.throwing(21, "product of " + j[0] + " and " + j[1], Check.STATE, () -> x.product(0, 1));
            CHECK.throwing(21, "none is kept of it", Check.INDEX, () -> x.letter(2, 0));
            CHECK.due(21, "the next word", 2, () -> x.word(0, 0));
        }
        int[][] up = {{1, 11}, {11, 1}, {4, 4}, {3, 5}, {5, 3}, {2, 7}, {7, 2}, {24, 0}, {0, 24}};
        for (int[] u : up) {
            Kneadery x = told(row('R', u[0]) + "C", row('L', u[1]) + "C");
            int letters = (u[0] + 1) * (u[1] + 1) - 1;
            CHECK.due(21, "product of " + u[0] + " and " + u[1], 2, () -> x.product(0, 1));
            CHECK.due(21, "its C", 'C', () -> x.letter(2, letters));
            CHECK.throwing(21, "none behind its C", Check.INDEX, () -> x.letter(2, letters + 1));
        }
    }

    private static void productUpToThirty() {
        Kneadery x = told("RC");
        for (int i = 1; i < 30; i++) {
            int k = i;
            CHECK.due(21, "product " + k, k, () -> x.product(0, 0));
        }
        CHECK.throwing(21, "one more", Check.STATE, () -> x.product(0, 0));
        CHECK.throwing(21, "one more again", Check.STATE, () -> x.product(29, 29));
        CHECK.throwing(15, "one more told", Check.STATE, () -> x.word(0, 0));
        dueText(21, x, 29, "RLRC");
    }

    /** Only an odd number of letters R changes them; the C of the second one stands for none of them. */
    private static void productChangesLetters() {
        product("LC", "RLC", "LRLLLC");
        product("RC", "RLC", "RLRRRC");
        product("RRC", "RLC", "RRRRRLRRC");
        product("RRRC", "RLC", "RRRLRRRRRRRC");
        product("RLC", "RC", "RLLRLC");
        product("LRC", "LC", "LRRLRC");
    }

    private static void productWhichException() {
        Kneadery x = told(row('L', 24) + "C");
        CHECK.throwing(21, "no word goes ahead of too many letters", Check.INDEX, () -> x.product(0, 1));
        CHECK.throwing(21, "no first word either", Check.INDEX, () -> x.product(1, 0));
        for (int i = 1; i < 30; i++) {
            x.word(24, i);
        }
        CHECK.throwing(21, "no word goes ahead of no room", Check.INDEX, () -> x.product(0, 30));
        CHECK.throwing(21, "no first word either", Check.INDEX, () -> x.product(-1, 0));
        CHECK.throwing(21, "too many letters and no room", Check.STATE, () -> x.product(0, 1));
    }

    // ---- promise 22

    private static void factor(String text, int want) {
        Kneadery x = told(text);
        CHECK.due(22, "factor of " + text, want, () -> x.factor(0));
    }

    private static void factorOfNoSuchWord() {
        Kneadery x = told("RLRC", "RLC");
        for (int word : NONE_OF_TWO) {
            CHECK.throwing(22, "factor(" + word + ")", Check.INDEX, () -> x.factor(word));
        }
        CHECK.due(22, "the first word", 2, () -> x.factor(0));
        CHECK.due(22, "the last word", Kneadery.NONE, () -> x.factor(1));
    }

    /** Of n and 1 no factor is as great as that itself, and 1 is none: three letters at least have one. */
    private static void factorOfTheShortest() {
        factor("C", Kneadery.NONE);
        factor("LC", Kneadery.NONE);
        factor("RC", Kneadery.NONE);
        factor("LLC", Kneadery.NONE);
        factor("LLLC", 2);
        factor("LRLC", 2);
        factor("LLRC", Kneadery.NONE);
        factor("LLLLC", Kneadery.NONE);
    }

    /** 25 has the one factor 5; 24 has 12 as its greatest. */
    private static void factorOfTheLongest() {
        factor(row('L', 24) + "C", 5);
        factor(row('L', 23) + "RC", Kneadery.NONE);
        factor("RLLR" + "L" + "RLLR" + "R" + "RLLR" + "R" + "RLLR" + "L" + "RLLR" + "C", 5);
        factor("RLLRLRLLRRRLLRRRLLRLRLLLC", Kneadery.NONE);
        factor("LLLLLLLLLLR" + "R" + "LLLLLLLLLLR" + "C", 12);
        factor("LLLLLLLLLLR" + "R" + "LLLLLLLLLLL" + "C", Kneadery.NONE);
        factor(row('R', 23) + "C", 2);
        factor(row('R', 22) + "C", Kneadery.NONE);
    }

    private static void factorIsTheLeast() {
        factor("LLLLLC", 2);
        factor("LLRLLC", 3);
        factor("LRLRLC", 2);
        factor("LRRLRC", 3);
        factor("RLRRRLRRRLRC", 2);
        factor("RRLRRLRRRRRC", 3);
        factor("RRLRRLRRRRLC", Kneadery.NONE);
        factor("RRLRRRRRLRRC", 3);
        factor("RLLRRLLLRLLC", 4);
        factor("RRLLRRRRLLRC", 6);
    }

    // ---- promise 23

    private static void patternOfNoSuchWord() {
        Kneadery x = told("RC", "RLC");
        for (int word : NONE_OF_TWO) {
            CHECK.throwing(23, "patternOf(" + word + ")", Check.INDEX, () -> x.patternOf(word));
        }
        CHECK.due(23, "the first word", 0, () -> x.patternOf(0));
        CHECK.due(23, "the last word", 1, () -> x.patternOf(1));
        CHECK.due(23, "and the first one again", 2, () -> x.patternOf(0));
    }

    private static void patternOfLeastAndGreatest() {
        String[] texts = {"RC", "RLC", "RLRC", "RLLC", "RLRRRLRC", "RLLLLLLC", "RLLLLLRC"};
        int[] due = {21, 231, 3421, 2341, 56874321, 23456781, 23457861};
        for (int i = 0; i < texts.length; i++) {
            int k = i;
            Kneadery x = told(texts[k]);
            CHECK.due(23, "patternOf " + texts[k], 0, () -> x.patternOf(0));
            CHECK.due(23, "images of " + texts[k], due[k], () -> x.images(0));
            CHECK.due(23, "the test's own", due[k], () -> WordOracle.imagesOf(texts[k]));
            dueText(23, x, 0, texts[k]);
        }
    }

    /** Not greatest, without letters, with more than seven. */
    private static void patternOfRefused() {
        for (String text : new String[] {"C", "LC", "RRC", "LLLLLLLC", "RRLLLLLC", "RLRLLLLC", "RLLLLLLLC", "RLRRRLRRC",
            "R" + row('L', 23) + "C", row('L', 24) + "C", row('R', 8) + "C"}) {
            Kneadery x = told(text);
            CHECK.throwing(23, "patternOf " + text, Check.STATE, () -> x.patternOf(0));
            CHECK.throwing(23, "none is kept", Check.INDEX, () -> x.images(0));
            CHECK.throwing(23, "no map of it", Check.INDEX, () -> x.mapOf(0));
            CHECK.due(23, "the next pattern is the first one", 0, () -> x.pattern(21));
        }
    }

    private static void patternOfUpToTwelve() {
        Kneadery x = told("RC", "RLC", "C");
        x.pattern(312);
        for (int i = 1; i < 12; i++) {
            int k = i;
            CHECK.due(23, "pattern " + k, k, () -> x.patternOf(k % 2));
        }
        CHECK.throwing(23, "one more", Check.STATE, () -> x.patternOf(0));
        CHECK.throwing(23, "one more of a word without letters", Check.STATE, () -> x.patternOf(2));
        CHECK.throwing(23, "one more of no word", Check.INDEX, () -> x.patternOf(3));
        CHECK.throwing(23, "one more of the word -1", Check.INDEX, () -> x.patternOf(-1));
        CHECK.throwing(9, "one more told", Check.STATE, () -> x.pattern(21));
        CHECK.due(10, "the last one", 231, () -> x.images(11));
        CHECK.due(10, "the first one", 312, () -> x.images(0));
    }
}
