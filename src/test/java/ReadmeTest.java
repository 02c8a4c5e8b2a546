/** The example of README.md, with the answers that stand behind its calls. */
public final class ReadmeTest {
    private static int wrong = 0;

    public static void main(String[] args) {
        CinnamonPeelers peelers = new CinnamonPeelers();
        int family = peelers.family(2);
        due("family(2)", family, 0);
        int garden = peelers.garden(family);
        due("garden(0)", garden, 0);
        due("rain(2, true)", peelers.rain(2, true) ? 1 : 0, 1);
        due("cut(0, 0, 20, 1, 8)", peelers.cut(family, garden, 20, 1, 8), 0);
        due("cut(0, 0, 24, 1, 9)", peelers.cut(family, garden, 24, 1, 9), 1);
        due("dryOn(1)", peelers.dryOn(1), 4);
        due("pass(4)", peelers.pass(4), 4);
        due("could(0)", peelers.could(family), 2);
        int quill = peelers.join(family);
        due("join(0)", quill, 0);
        due("part(0, 1)", peelers.part(quill, 1), 1);
        due("quill(0, 1)", peelers.quill(quill, 1), 1);
        due("bale(0, 1)", peelers.bale(family, 1), CinnamonPeelers.NONE);
        due("trouble()", peelers.trouble(), 5);
        System.out.println(wrong == 0 ? "the example answers as it says" : wrong + " answers are not as it says");
        if (wrong != 0) {
            System.exit(1);
        }
    }

    private static void due(String call, int got, int want) {
        if (got != want) {
            wrong++;
            System.out.println(call + " answered " + got + ", README.md says " + want);
        }
    }
}
