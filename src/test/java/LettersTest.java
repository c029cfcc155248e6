/** Every letter (0 .. 255) at every place of every STATEMENT: it goes on, or is the FAULT of kind 1. */
public final class LettersTest {
    private static final int MOST_LETTER = 255;
    /** Each form told once, as it must be behind AHEAD. */
    private static final String[] STATEMENTS = {"pp512;", "h0133;", "c15;", "s01;", "m01;", "d12;"};
    private static final String AHEAD = "pp000;pp000;";
    private static final String FIRST_LETTERS = "phcsmd";
    private static final String KINDS = "psrblc";

    private static int wrong = 0;

    public static void main(String[] args) {
        for (int c = 0; c <= MOST_LETTER; c++) {
            for (String statement : STATEMENTS) {
                for (int place = 0; place < statement.length(); place++) {
                    check("", statement, place, (char) c);
                    check(AHEAD, statement, place, (char) c);
                }
            }
        }
        if (wrong != 0) {
            System.exit(1);
        }
    }

    private static boolean isDigit(char c) {
        return c >= '0' && c <= '9';
    }

    private static boolean fits(String statement, int place, char c) {
        if (place == 0) {
            return FIRST_LETTERS.indexOf(c) >= 0;
        }
        if (place == statement.length() - 1) {
            return c == ';';
        }
        return statement.charAt(0) == 'p' && place == 1 ? KINDS.indexOf(c) >= 0 : isDigit(c);
    }

    /** Tells what is ahead, the STATEMENT up to the place, and the letter: something lacks then, or nothing does. */
    private static void check(String ahead, String statement, int place, char c) {
        String text = ahead + statement.substring(0, place) + c;
        int due = -1000 - (ahead.length() + place + (fits(statement, place, c) ? 1 : 0));
        if (c == ';' && place == statement.length() - 1) {
            boolean needsPeople = "hcsm".indexOf(statement.charAt(0)) >= 0;
            due = needsPeople && ahead.isEmpty() ? -2000 : ahead.isEmpty() ? 1 : 3;
        }
        PostByEnemy post = new PostByEnemy();
        for (int i = 0; i < text.length(); i++) {
            post.letter(text.charAt(i));
        }
        int got = post.duchy();
        if (got != due) {
            wrong++;
            System.out.println("behind \"" + ahead + "\": \"" + statement.substring(0, place) + "\" and letter " + (int) c
                + ": duchy() answered " + got + ", due is " + due);
        }
        if (post.count(7) != 0) {
            wrong++;
            System.out.println("letters are left behind " + text);
        }
    }
}
