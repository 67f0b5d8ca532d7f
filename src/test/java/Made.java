/** Makes objects for the tests. */
final class Made {
    private Made() {
    }

    /** A new object with that school read. */
    static BeatenInstead school(String text) {
        BeatenInstead made = new BeatenInstead();
        type(made, text);
        made.school();
        return made;
    }

    /** The letters come behind the page. */
    static void type(BeatenInstead to, String text) {
        for (int i = 0; i < text.length(); i++) {
            to.letter(text.charAt(i));
        }
    }

    /** The page is that text. */
    static void page(BeatenInstead of, String text) {
        of.blank();
        type(of, text);
    }
}
