/** Objects as tests need them. */
final class Made {
    private Made() {
    }

    /** The word that tells up to eight letters. */
    static long word(String text) {
        long word = 0;
        for (int i = text.length() - 1; i >= 0; i--) {
            word = word << 8 | text.charAt(i);
        }
        return word;
    }

    /** Puts a text behind the page: what the last call answered. */
    static int write(LeavesInCups x, String text) {
        int last = x.letters(0);
        for (int i = 0; i < text.length(); i += 8) {
            last = x.letters(word(text.substring(i, Math.min(text.length(), i + 8))));
        }
        return last;
    }

    static int cup(LeavesInCups x, String text) {
        write(x, text);
        return x.cup();
    }

    static int row(LeavesInCups x, String text) {
        write(x, text);
        return x.row();
    }

    static int river(LeavesInCups x, String text) {
        write(x, text);
        return x.river();
    }

    static LeavesInCups withCup(String text) {
        LeavesInCups x = new LeavesInCups();
        cup(x, text);
        return x;
    }

    static LeavesInCups withRiver(String text) {
        LeavesInCups x = new LeavesInCups();
        river(x, text);
        return x;
    }
}
