/** Puts TEXTS on SHEET 3, so that a test can tell PARTS by a String. */
final class Texts {
    private static final int SHEET = 3, INTS = 2;

    static int take(ShakyScreens screens, String text) {
        screens.sheet(SHEET, INTS, text.length());
        for (int i = 0; i < text.length(); i++) {
            screens.put(SHEET, i, text.charAt(i));
        }
        return screens.text(SHEET, INTS, 0, text.length());
    }

    /** A new object with the PARTS of a TEXT and so many PERSONS. */
    static ShakyScreens screens(String text, int persons) {
        ShakyScreens screens = new ShakyScreens();
        for (int p = 0; p < persons; p++) {
            screens.person();
        }
        if (take(screens, text) < 1) {
            throw new IllegalArgumentException("no TEXT: " + text);
        }
        return screens;
    }

    private Texts() {
    }
}
