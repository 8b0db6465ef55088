import java.util.ArrayList;
import java.util.List;

/** Words by the document's words: as texts of L, R and, at last, C. */
final class WordOracle {
    private WordOracle() {
    }

    static String text(int letters, int set) {
        StringBuilder text = new StringBuilder();
        for (int i = 0; i < letters; i++) {
            text.append((set >> i & 1) == 1 ? 'R' : 'L');
        }
        return text.append('C').toString();
    }

    /** 1 if the first one is above, -1 if it is below, 0 if they are the same. */
    static int order(String one, String two) {
        int signs = 1;
        for (int i = 0; i < one.length() && i < two.length(); i++) {
            if (one.charAt(i) != two.charAt(i)) {
                return signs * Integer.compare("LCR".indexOf(one.charAt(i)), "LCR".indexOf(two.charAt(i)));
            }
            signs = one.charAt(i) == 'R' ? -signs : signs;
        }
        return 0;
    }

    static boolean isGreatest(String word) {
        for (int i = 1; i < word.length(); i++) {
            if (order(word.substring(i), word) > 0) {
                return false;
            }
        }
        return true;
    }

    static int count(int letters) {
        int found = 0;
        for (int set = 0; set < 1 << letters; set++) {
            found += isGreatest(text(letters, set)) ? 1 : 0;
        }
        return found;
    }

    static String product(String one, String two) {
        String block = one.substring(0, one.length() - 1);
        boolean isOdd = block.replace("L", "").length() % 2 == 1;
        StringBuilder text = new StringBuilder(block);
        for (int i = 0; i < two.length() - 1; i++) {
            text.append((two.charAt(i) == 'R') != isOdd ? 'R' : 'L').append(block);
        }
        return text.append('C').toString();
    }

    /** The least one; NONE without one. */
    static int factor(String word) {
        int n = word.length() - 1;
        for (int f = 2; f < n + 1; f++) {
            boolean isFactor = (n + 1) % f == 0;
            for (int place = 1; place <= n && isFactor; place++) {
                isFactor = place % f == 0 || word.charAt(place - 1) == word.charAt(place % f - 1);
            }
            if (isFactor) {
                return f;
            }
        }
        return Kneadery.NONE;
    }

    /** The digits of the images of its pattern: the tails are put in their order one by one. */
    static int imagesOf(String word) {
        List<String> points = new ArrayList<>();
        for (int i = 0; i < word.length(); i++) {
            int at = 0;
            while (at < points.size() && order(points.get(at), word.substring(i)) < 0) {
                at++;
            }
            points.add(at, word.substring(i));
        }
        int digits = 0;
        for (String point : points) {
            digits = digits * 10 + points.indexOf(point.equals("C") ? word : point.substring(1)) + 1;
        }
        return digits;
    }
}
