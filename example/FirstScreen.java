/** Three parts, laid for one person and pressed; README.md shows it with what it prints. */
public final class FirstScreen {
    public static void main(String[] args) {
        ShakyScreens screens = new ShakyScreens();
        int person = screens.person();

        String text = "p5;d12>0;x3>1"; // behind the deed comes part 0, behind the danger the deed
        screens.sheet(0, 0, text.length());
        for (int i = 0; i < text.length(); i++) {
            screens.put(0, i, text.charAt(i));
        }
        show("parts", screens.text(0, 0, 0, text.length()));

        screens.can(person, 0, 1); // presses fall wide: any two parts further apart than 1
        show("price of the best laying", screens.lay(person, 0b111));
        show("part at place 0", screens.at(person, 0));
        show("place of the danger", screens.best(person, 0b111, 2));

        show("a press on the deed", screens.press(person, 25, 5, 0));
        show("a press on the danger, which is asked", screens.press(person, 25, 25, 1));
        show("once more", screens.press(person, 25, 25, 2));
        show("a press beside the glass", screens.press(person, 40, 0, 3));
        show("an old laying had back", screens.back(person));
    }

    private static void show(String what, int answer) {
        System.out.println(what + ": " + answer);
    }
}
