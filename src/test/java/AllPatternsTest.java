/** Every PATTERN of up to five TOKENS and ends of MESSAGES, whoever is known ahead: its FAULT is the model's. */
public final class AllPatternsTest {
    private static final String SIGNS = "esEFGS ";
    private static final int MOST_SIGNS = 5, PATTERNS_OF_AN_OBJECT = 8;

    private final Check check = new Check("AllPatternsTest");
    private Both both = null;
    private int told = 0;

    public static void main(String[] args) {
        AllPatternsTest all = new AllPatternsTest();
        all.longer("");
        all.check.end();
    }

    private void longer(String text) {
        judge(text);
        if (text.length() == MOST_SIGNS) {
            return;
        }
        for (char sign : SIGNS.toCharArray()) {
            longer(text + sign);
        }
    }

    private void judge(String text) {
        for (int known = 0; known < 4; known++) {
            if (told % PATTERNS_OF_AN_OBJECT == 0) {
                both = new Both(check, "patterns from the one of '" + text + "' on");
            }
            told++;
            both.fault(both.tell((known & 1) != 0, (known & 2) != 0, text));
        }
    }
}
