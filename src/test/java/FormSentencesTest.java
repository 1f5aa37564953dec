import java.util.Arrays;

/** The document's sentences on the text and the forms: terms, promises 6 to 11 and 13. */
public final class FormSentencesTest {
    private static final int NONE = -1;
    private static final int MIN = Integer.MIN_VALUE;
    private static final int MAX = Integer.MAX_VALUE;

    private static void puts(Run x, int... parameters) {
        for (int i = 0; i < parameters.length; i++) {
            x.gives(i + 1, Call.put(parameters[i]));
        }
    }

    private static void make(Run x, int id, int every, int... parameters) {
        puts(x, parameters);
        x.gives(0, Call.form(id, every));
    }

    private static void formIs(Run x, int id, int every, boolean on, int... parameters) {
        x.gives(every, Call.about(id, 0));
        x.gives(on ? 1 : 0, Call.about(id, 1));
        x.gives(parameters.length, Call.parameter(id, -1));
        for (int k = 0; k < parameters.length; k++) {
            x.gives(parameters[k], Call.parameter(id, k));
        }
        x.gives(NONE, Call.parameter(id, parameters.length));
    }

    private static void formIsNotThere(Run x, int id) {
        x.gives(NONE, Call.about(id, 0));
        x.gives(NONE, Call.about(id, 1));
        x.gives(NONE, Call.parameter(id, -1));
        x.gives(NONE, Call.parameter(id, 0));
    }

    /** Shows the text by making a form of it, so it can be asked once. */
    private static void textIs(Run x, int... parameters) {
        x.gives(0, Call.form(123, 1));
        formIs(x, 123, 1, false, parameters);
    }

    /** The ids 0, 30, 60 .. 210. */
    private static Run withEightForms() {
        Run x = new Run();
        for (int i = 0; i < 8; i++) {
            make(x, i * 30, i + 1, i, i + 8);
        }
        return x;
    }

    private static void eightFormsAre(Run x, boolean on) {
        x.gives(8, Call.value(11));
        for (int i = 0; i < 8; i++) {
            formIs(x, i * 30, i + 1, on, i, i + 8);
        }
    }

    // Terms

    private static void everyIdCanBe() {
        for (int first = 0; first <= 128; first += 128) {
            Run x = new Run();
            for (int id = first; id < first + 128; id++) {
                make(x, id, 9, 1);
                x.gives(9, Call.about(id, 0));
                x.gives(0, Call.remove(id));
            }
        }
    }

    private static void everyEveryCanBe() {
        for (int first = 1; first <= 129; first += 128) {
            Run x = new Run();
            for (int every = first; every < first + 128 && every <= 255; every++) {
                make(x, 7, every, 1);
                x.gives(every, Call.about(7, 0));
                x.gives(0, Call.remove(7));
            }
        }
    }

    private static void oneToEightParametersCanBe() {
        int[] all = {31, 0, 30, 1, 29, 2, 28, 3};
        for (int n = 1; n <= 8; n++) {
            Run x = new Run();
            int[] some = Arrays.copyOf(all, n);
            make(x, 5, 1, some);
            formIs(x, 5, 1, false, some);
        }
    }

    private static void everyParameterCanBe() {
        Run x = new Run();
        for (int p = 0; p <= 31; p++) {
            make(x, 5, 1, p);
            x.gives(p, Call.parameter(5, 0));
            x.gives(0, Call.remove(5));
        }
    }

    private static void eightFormsCanBe() {
        eightFormsAre(withEightForms(), false);
    }

    private static void aWrongFormThatIsThereIsWrong() {
        Run x = new Run();
        make(x, 9, 4, 1);
        x.gives(13, Call.form(9, 4));
        for (int every : new int[] {0, 256}) {
            puts(x, 2);
            x.gives(13, Call.form(9, every));
        }
        formIs(x, 9, 4, false, 1);
    }

    private static void aWrongNinthFormIsWrong() {
        Run x = withEightForms();
        x.gives(13, Call.form(9, 4));
        for (int every : new int[] {0, 256}) {
            puts(x, 2);
            x.gives(13, Call.form(9, every));
        }
        for (int id : new int[] {-1, 256}) {
            puts(x, 2);
            x.gives(13, Call.form(id, 4));
        }
        eightFormsAre(x, false);
    }

    private static void aNinthFormThatIsThereIsThere() {
        Run x = withEightForms();
        for (int i = 0; i < 8; i++) {
            puts(x, 2);
            x.gives(11, Call.form(i * 30, 9));
        }
        eightFormsAre(x, false);
    }

    // Promise 6

    private static void putTellsHowManyTheTextHas() {
        Run x = new Run();
        puts(x, 5, 5, 0, 31, 4, 3, 2, 1);
        textIs(x, 5, 5, 0, 31, 4, 3, 2, 1);
    }

    private static void putIsFreeInEveryMode() {
        for (int m = 0; m <= 2; m++) {
            Run x = new Run(Call.enter(m));
            puts(x, 1, 2);
            textIs(x, 1, 2);
        }
    }

    private static void putRefusesOtherParameters() {
        Run x = new Run();
        x.gives(NONE, Call.put(-1));
        x.gives(NONE, Call.put(32));
        x.gives(1, Call.put(17));
        for (int p : Numbers.outside(0, 31)) {
            x.gives(NONE, Call.put(p));
        }
        x.gives(2, Call.put(18));
        textIs(x, 17, 18);
    }

    private static void putRefusesWithAnEmptyTextToo() {
        Run x = new Run();
        for (int p : Numbers.outside(0, 31)) {
            x.gives(NONE, Call.put(p));
        }
        x.gives(13, Call.form(123, 1));
    }

    private static void putRefusesANinth() {
        Run x = new Run();
        puts(x, 8, 7, 6, 5, 4, 3, 2, 1);
        for (int p = -1; p <= 32; p++) {
            x.gives(NONE, Call.put(p));
        }
        textIs(x, 8, 7, 6, 5, 4, 3, 2, 1);
        puts(x, 9, 10);
    }

    // Promise 7

    private static void aNewFormIsOff() {
        Run x = new Run();
        make(x, 9, 1, 1);
        x.gives(0, Call.about(9, 1));
        x.gives(NONE, Call.due(0, 0));
    }

    /** Its id was on before, as was its place. */
    private static void aFormMadeAgainIsOff() {
        Run x = new Run();
        make(x, 9, 1, 1);
        x.gives(0, Call.enable(9, true));
        x.gives(0, Call.enable(9, false));
        x.gives(0, Call.remove(9));
        make(x, 9, 2, 3, 4);
        formIs(x, 9, 2, false, 3, 4);
    }

    private static void aNewFormHasTheTextsParameters() {
        Run x = new Run();
        make(x, 1, 1, 4, 3);
        make(x, 2, 1, 9, 9, 9, 8, 8, 7, 0, 31);
        make(x, 0, 1, 5);
        formIs(x, 1, 1, false, 4, 3);
        formIs(x, 2, 1, false, 9, 9, 9, 8, 8, 7, 0, 31);
        formIs(x, 0, 1, false, 5);
    }

    private static void aLaterTextLeavesTheForm() {
        Run x = new Run();
        make(x, 1, 1, 4, 3);
        puts(x, 20, 21, 22);
        formIs(x, 1, 1, false, 4, 3);
    }

    private static void aShorterFormInTheSamePlaceHasNoOldParameters() {
        Run x = new Run();
        make(x, 1, 1, 10, 11, 12, 13, 14, 15, 16, 17);
        x.gives(0, Call.remove(1));
        make(x, 2, 1, 20, 21);
        x.gives(2, Call.parameter(2, -1));
        for (int k = 2; k < 8; k++) {
            x.gives(NONE, Call.parameter(2, k));
        }
    }

    private static void theTextIsEmptyAfterANewForm() {
        Run x = new Run();
        make(x, 1, 1, 10, 11, 12);
        x.gives(13, Call.form(2, 1));
        puts(x, 7);
        textIs(x, 7);
    }

    private static void theTextIsEmptyAfterAWrongEvery() {
        for (int every : new int[] {0, 256}) {
            Run x = new Run();
            puts(x, 10, 11, 12);
            x.gives(13, Call.form(1, every));
            x.gives(13, Call.form(1, 1));
            puts(x, 7);
            textIs(x, 7);
        }
    }

    private static void theTextIsEmptyAfterAWrongId() {
        for (int id : new int[] {-1, 256}) {
            Run x = new Run();
            puts(x, 10, 11, 12);
            x.gives(13, Call.form(id, 1));
            x.gives(13, Call.form(1, 1));
            puts(x, 7);
            textIs(x, 7);
        }
    }

    private static void theTextIsEmptyAfterAnIdThatIsThere() {
        Run x = new Run();
        make(x, 1, 1, 10, 11, 12);
        puts(x, 13, 14);
        x.gives(11, Call.form(1, 1));
        x.gives(13, Call.form(2, 1));
        puts(x, 7);
        textIs(x, 7);
    }

    private static void theTextIsEmptyAfterANinthForm() {
        Run x = withEightForms();
        puts(x, 13, 14);
        x.gives(12, Call.form(1, 1));
        x.gives(13, Call.form(1, 1));
        puts(x, 7);
        x.gives(0, Call.remove(0));
        textIs(x, 7);
    }

    private static void aFullTextIsEmptyAfterAForm() {
        Run x = new Run();
        puts(x, 1, 2, 3, 4, 5, 6, 7, 8);
        x.gives(NONE, Call.put(9));
        x.gives(13, Call.form(256, 1));
        puts(x, 9, 10, 11, 12, 13, 14, 15, 16);
        textIs(x, 9, 10, 11, 12, 13, 14, 15, 16);
    }

    private static void aFormOfNoTextIsWrong() {
        Run x = new Run();
        for (int i = 0; i < 3; i++) {
            x.gives(13, Call.form(1, 1));
        }
        x.gives(NONE, Call.put(32));
        x.gives(13, Call.form(1, 1));
        formIsNotThere(x, 1);
        x.gives(0, Call.value(11));
    }

    private static void aFormOfAnotherEveryIsWrong() {
        Run x = new Run();
        make(x, 8, 1, 1);
        make(x, 9, 255, 1);
        for (int every : Numbers.outside(1, 255)) {
            puts(x, 1);
            x.gives(13, Call.form(7, every));
        }
        formIsNotThere(x, 7);
        x.gives(2, Call.value(11));
    }

    private static void aFormOfAnotherIdIsWrong() {
        Run x = new Run();
        make(x, 0, 1, 1);
        make(x, 255, 1, 1);
        int[] ids = Numbers.outside(0, 255);
        for (int id : ids) {
            puts(x, 1);
            x.gives(13, Call.form(id, 3));
        }
        x.gives(2, Call.value(11));
        formIs(x, 0, 1, false, 1);
        formIs(x, 255, 1, false, 1);
        Run y = new Run();
        for (int id : new int[] {-1, 256}) {
            puts(y, 1);
            y.gives(13, Call.form(id, 3));
            formIsNotThere(y, id);
        }
    }

    private static void aFormThatIsThereIsNotMadeAgain() {
        for (int id : new int[] {0, 9, 255}) {
            for (boolean on : new boolean[] {false, true}) {
                Run x = new Run();
                make(x, id, 4, 5, 6);
                x.gives(0, Call.enable(id, on));
                puts(x, 5, 6);
                x.gives(11, Call.form(id, 4));
                puts(x, 7, 8, 9);
                x.gives(11, Call.form(id, 3));
                formIs(x, id, 4, on, 5, 6);
                x.gives(1, Call.value(11));
            }
        }
    }

    private static void aNinthFormIsNotMade() {
        Run x = withEightForms();
        for (int id : new int[] {1, 29, 255}) {
            puts(x, 7);
            x.gives(12, Call.form(id, 3));
            formIsNotThere(x, id);
        }
        eightFormsAre(x, false);
    }

    private static void aNinthFormIsNotMadeWhileAllAreOn() {
        Run x = withEightForms();
        for (int i = 0; i < 8; i++) {
            x.gives(0, Call.enable(i * 30, true));
        }
        puts(x, 7);
        x.gives(12, Call.form(1, 3));
        eightFormsAre(x, true);
    }

    private static void anEighthFormIsMadeAgainInEveryPlace() {
        for (int gone = 0; gone < 8; gone++) {
            Run x = withEightForms();
            x.gives(0, Call.remove(gone * 30));
            make(x, 251, 200, 20, 21, 22);
            formIs(x, 251, 200, false, 20, 21, 22);
            x.gives(8, Call.value(11));
            puts(x, 7);
            x.gives(12, Call.form(252, 3));
            for (int i = 0; i < 8; i++) {
                if (i != gone) {
                    formIs(x, i * 30, i + 1, false, i, i + 8);
                }
            }
        }
    }

    // Promise 8

    private static void aRemovedFormIsGone() {
        for (int gone = 0; gone < 8; gone++) {
            Run x = withEightForms();
            x.gives(0, Call.remove(gone * 30));
            formIsNotThere(x, gone * 30);
            x.gives(14, Call.enable(gone * 30, true));
            x.gives(NONE, Call.due(0, 0));
            x.gives(7, Call.value(11));
            for (int i = 0; i < 8; i++) {
                if (i != gone) {
                    formIs(x, i * 30, i + 1, false, i, i + 8);
                }
            }
        }
    }

    private static void allFormsCanBeRemoved() {
        Run x = withEightForms();
        for (int i = 7; i >= 0; i--) {
            x.gives(0, Call.remove(i * 30));
            x.gives(i, Call.value(11));
        }
        for (int i = 0; i < 8; i++) {
            x.gives(14, Call.remove(i * 30));
        }
        x.gives(0, Call.value(11));
    }

    private static void removeLeavesTheText() {
        Run x = new Run();
        make(x, 1, 1, 4);
        puts(x, 7, 8);
        x.gives(0, Call.remove(1));
        x.gives(14, Call.remove(1));
        x.gives(3, Call.put(9));
        textIs(x, 7, 8, 9);
    }

    private static void removeRefusesAFormThatIsNotThere() {
        Run x = new Run();
        make(x, 0, 1, 1);
        make(x, 255, 1, 1);
        make(x, 127, 1, 1);
        x.gives(14, Call.remove(1));
        x.gives(14, Call.remove(254));
        for (int id : Numbers.outside(0, 255)) {
            x.gives(14, Call.remove(id));
        }
        x.gives(3, Call.value(11));
    }

    private static void removeTwiceIsRefused() {
        Run x = new Run();
        make(x, 6, 1, 1);
        make(x, 7, 1, 1);
        x.gives(0, Call.remove(6));
        x.gives(14, Call.remove(6));
        x.gives(1, Call.value(11));
    }

    private static void removeRefusesAFormThatIsOn() {
        Run x = new Run();
        make(x, 6, 3, 1, 2);
        make(x, 7, 1, 1);
        x.gives(0, Call.enable(6, true));
        x.gives(15, Call.remove(6));
        x.gives(15, Call.remove(6));
        formIs(x, 6, 3, true, 1, 2);
        x.gives(6, Call.due(3, 0));
        x.gives(2, Call.value(11));
        x.gives(0, Call.remove(7));
        x.gives(0, Call.enable(6, false));
        x.gives(0, Call.remove(6));
    }

    // Promise 9

    private static void enableTurnsThatFormAlone() {
        for (int one = 0; one < 8; one++) {
            Run x = withEightForms();
            x.gives(0, Call.enable(one * 30, true));
            for (int i = 0; i < 8; i++) {
                formIs(x, i * 30, i + 1, i == one, i, i + 8);
            }
            x.gives(0, Call.enable(one * 30, false));
            eightFormsAre(x, false);
        }
    }

    private static void enableTwiceIsAsOnce() {
        Run x = new Run();
        make(x, 5, 2, 1);
        for (boolean on : new boolean[] {false, false, true, true, false, false}) {
            x.gives(0, Call.enable(5, on));
            x.gives(on ? 1 : 0, Call.about(5, 1));
        }
    }

    private static void enableRefusesAFormThatIsNotThere() {
        Run x = new Run();
        make(x, 0, 1, 1);
        make(x, 255, 1, 1);
        make(x, 127, 1, 1);
        make(x, 3, 1, 1);
        x.gives(0, Call.remove(3));
        x.gives(0, Call.enable(255, true));
        for (int id : new int[] {1, 3, 254}) {
            x.gives(14, Call.enable(id, true));
            x.gives(14, Call.enable(id, false));
        }
        for (int id : Numbers.outside(0, 255)) {
            x.gives(14, Call.enable(id, true));
            x.gives(14, Call.enable(id, false));
        }
        x.gives(0, Call.about(0, 1));
        x.gives(0, Call.about(127, 1));
        x.gives(1, Call.about(255, 1));
        x.gives(3, Call.value(11));
    }

    // Promise 10

    /** Made in no order of their ids, all of them on. */
    private static Run withFormsOn() {
        Run x = new Run();
        for (int id : new int[] {200, 0, 255, 100}) {
            make(x, id, 1, 1);
            x.gives(0, Call.enable(id, true));
        }
        return x;
    }

    private static void dueIsTheLeastId() {
        Run x = withFormsOn();
        x.gives(0, Call.due(5, 0));
        x.gives(100, Call.due(5, 1));
        x.gives(200, Call.due(5, 101));
        x.gives(255, Call.due(5, 201));
    }

    private static void dueCountsFromTheIdItself() {
        Run x = withFormsOn();
        x.gives(100, Call.due(5, 99));
        x.gives(100, Call.due(5, 100));
        x.gives(200, Call.due(5, 101));
        x.gives(255, Call.due(5, 255));
    }

    private static void dueFromBelowAllIds() {
        Run x = withFormsOn();
        for (int from : Numbers.outside(0, MAX)) {
            x.gives(0, Call.due(5, from));
        }
    }

    private static void dueFromAboveAllIds() {
        Run x = withFormsOn();
        for (int from : Numbers.outside(MIN, 255)) {
            x.gives(NONE, Call.due(5, from));
        }
    }

    private static void dueLeavesOutFormsThatAreOff() {
        Run x = withFormsOn();
        x.gives(0, Call.enable(0, false));
        x.gives(100, Call.due(0, 0));
        x.gives(0, Call.enable(200, false));
        x.gives(255, Call.due(0, 101));
        x.gives(0, Call.enable(0, true));
        x.gives(0, Call.due(0, 0));
    }

    private static void dueLeavesOutFormsThatAreGone() {
        Run x = withFormsOn();
        x.gives(0, Call.enable(0, false));
        x.gives(0, Call.remove(0));
        x.gives(100, Call.due(0, 0));
    }

    private static void dueOfEveryEvery() {
        for (int every = 1; every <= 255; every++) {
            Run x = new Run();
            make(x, 9, every, 1);
            x.gives(0, Call.enable(9, true));
            for (int tick : new int[] {1, 2, 127, 128, 254, 255, 256, 510, 65536, MAX - 1, MAX,
                    every - 1, every + 1, 2 * every, 2 * every - 1, MIN, MIN + 1}) {
                x.gives((long) tick % every == 0 ? 9 : NONE, Call.due(tick, 0));
                x.gives((long) -tick % every == 0 ? 9 : NONE, Call.due(-tick, 0));
            }
        }
    }

    private static void dueAtTickZero() {
        for (int every = 1; every <= 255; every++) {
            Run x = new Run();
            make(x, 9, every, 1);
            x.gives(0, Call.enable(9, true));
            x.gives(9, Call.due(0, 0));
        }
    }

    private static void dueAtATickBelowZero() {
        Run x = new Run();
        make(x, 9, 7, 1);
        x.gives(0, Call.enable(9, true));
        x.gives(9, Call.due(-7, 0));
        x.gives(NONE, Call.due(-6, 0));
        x.gives(NONE, Call.due(-8, 0));
        x.gives(9, Call.due(-14, 0));
    }

    /** The least int is -2147483648, the greatest 2147483647. */
    private static void dueAtTheEndsOfTime() {
        Run x = new Run();
        make(x, 1, 3, 1);
        make(x, 2, 128, 1);
        make(x, 3, 1, 1);
        for (int id = 1; id <= 3; id++) {
            x.gives(0, Call.enable(id, true));
        }
        x.gives(2, Call.due(MIN, 0));
        x.gives(1, Call.due(MIN + 2, 0));
        x.gives(3, Call.due(MIN + 1, 0));
        x.gives(3, Call.due(MAX, 0));
        x.gives(1, Call.due(MAX - 1, 0));
    }

    private static void theLeastIdThatDividesIsDue() {
        Run x = new Run();
        make(x, 50, 4, 1);
        make(x, 10, 6, 1);
        make(x, 30, 2, 1);
        for (int id : new int[] {10, 30, 50}) {
            x.gives(0, Call.enable(id, true));
        }
        x.gives(10, Call.due(12, 0));
        x.gives(30, Call.due(4, 0));
        x.gives(30, Call.due(12, 11));
        x.gives(50, Call.due(4, 31));
        x.gives(NONE, Call.due(6, 31));
    }

    private static void dueWithoutAnyForm() {
        Run x = new Run();
        x.gives(NONE, Call.due(0, 0));
        x.gives(NONE, Call.due(0, MIN));
        x.gives(NONE, Call.due(0, NONE));
        make(x, 9, 1, 1);
        x.gives(NONE, Call.due(0, 0));
        x.gives(0, Call.enable(9, true));
        x.gives(9, Call.due(0, 0));
        x.gives(0, Call.enable(9, false));
        x.gives(NONE, Call.due(0, 0));
    }

    // Promise 11

    private static void parametersCountFromZero() {
        Run x = new Run();
        make(x, 4, 1, 31, 0, 17, 1, 2, 3, 4, 5);
        formIs(x, 4, 1, false, 31, 0, 17, 1, 2, 3, 4, 5);
    }

    private static void parameterMinusOneIsHowMany() {
        for (int n = 1; n <= 8; n++) {
            Run x = new Run();
            make(x, 4, 1, new int[n]);
            x.gives(n, Call.parameter(4, -1));
        }
    }

    private static void parameterOfNoFormIsNone() {
        Run x = new Run();
        make(x, 0, 1, 1);
        make(x, 255, 1, 1);
        make(x, 127, 1, 1);
        for (int id : new int[] {1, 254}) {
            x.gives(NONE, Call.parameter(id, -1));
            x.gives(NONE, Call.parameter(id, 0));
        }
        for (int id : Numbers.outside(0, 255)) {
            x.gives(NONE, Call.parameter(id, -1));
            x.gives(NONE, Call.parameter(id, 0));
        }
    }

    private static void anotherParameterOfAFormIsNone() {
        for (int n = 1; n <= 8; n++) {
            Run x = new Run();
            int[] parameters = new int[n];
            Arrays.fill(parameters, 3);
            make(x, 4, 1, parameters);
            x.gives(NONE, Call.parameter(4, -2));
            x.gives(NONE, Call.parameter(4, n));
            for (int k : Numbers.outside(-1, n - 1)) {
                x.gives(NONE, Call.parameter(4, k));
            }
        }
    }

    // Promise 13

    private static void aboutZeroIsEvery() {
        Run x = new Run();
        make(x, 0, 255, 1, 2);
        make(x, 255, 1, 1, 2);
        x.gives(0, Call.enable(0, true));
        x.gives(255, Call.about(0, 0));
        x.gives(1, Call.about(255, 0));
    }

    private static void aboutOneIsWhetherItIsOn() {
        Run x = new Run();
        make(x, 0, 255, 1, 2);
        make(x, 255, 7, 1, 2);
        x.gives(0, Call.enable(255, true));
        x.gives(0, Call.about(0, 1));
        x.gives(1, Call.about(255, 1));
    }

    private static void aboutNoFormIsNone() {
        Run x = new Run();
        make(x, 0, 1, 1);
        make(x, 255, 1, 1);
        make(x, 127, 1, 1);
        for (int id : new int[] {1, 254}) {
            x.gives(NONE, Call.about(id, 0));
            x.gives(NONE, Call.about(id, 1));
        }
        for (int id : Numbers.outside(0, 255)) {
            x.gives(NONE, Call.about(id, 0));
            x.gives(NONE, Call.about(id, 1));
        }
    }

    private static void aboutAnotherWhatIsNone() {
        for (boolean on : new boolean[] {false, true}) {
            Run x = new Run();
            make(x, 9, 5, 1, 2);
            x.gives(0, Call.enable(9, on));
            x.gives(NONE, Call.about(9, -1));
            x.gives(NONE, Call.about(9, 2));
            for (int what : Numbers.outside(0, 1)) {
                x.gives(NONE, Call.about(9, what));
            }
        }
    }

    private static void terms() {
        Report.sentence("terms", "A FORM has an id 0 .. 255", FormSentencesTest::everyIdCanBe);
        Report.sentence("terms", "EVERY 1 .. 255", FormSentencesTest::everyEveryCanBe);
        Report.sentence("terms", "1 to 8 parameters", FormSentencesTest::oneToEightParametersCanBe);
        Report.sentence("terms", "each 0 .. 31", FormSentencesTest::everyParameterCanBe);
        Report.sentence("terms", "At most 8 are there", FormSentencesTest::eightFormsCanBe);
        String first = "0, or the FAILURE, the first in the order that is told";
        Report.sentence("terms, 13 before 11", first, FormSentencesTest::aWrongFormThatIsThereIsWrong);
        Report.sentence("terms, 13 before 12", first, FormSentencesTest::aWrongNinthFormIsWrong);
        Report.sentence("terms, 11 before 12", first, FormSentencesTest::aNinthFormThatIsThereIsThere);
    }

    private static void put() {
        String more = "A parameter more of the text: how many it has";
        Report.sentence("promise 6", more, FormSentencesTest::putTellsHowManyTheTextHas);
        Report.sentence("promise 6, modes", more, FormSentencesTest::putIsFreeInEveryMode);
        String none = "NONE if there is no such parameter";
        Report.sentence("promise 6", none, FormSentencesTest::putRefusesOtherParameters);
        Report.sentence("promise 6, empty", none, FormSentencesTest::putRefusesWithAnEmptyTextToo);
        Report.sentence("promise 6", "or it has 8", FormSentencesTest::putRefusesANinth);
    }

    private static void form() {
        Report.sentence("promise 7", "A new form, off", FormSentencesTest::aNewFormIsOff);
        Report.sentence("promise 7, again", "A new form, off", FormSentencesTest::aFormMadeAgainIsOff);
        String of = "of the text's parameters";
        Report.sentence("promise 7", of, FormSentencesTest::aNewFormHasTheTextsParameters);
        Report.sentence("promise 7, later text", of, FormSentencesTest::aLaterTextLeavesTheForm);
        Report.sentence("promise 7, same place", of, FormSentencesTest::aShorterFormInTheSamePlaceHasNoOldParameters);
        String empty = "the text is empty then, whatever comes of it";
        Report.sentence("promise 7, 0", empty, FormSentencesTest::theTextIsEmptyAfterANewForm);
        Report.sentence("promise 7, 13 of every", empty, FormSentencesTest::theTextIsEmptyAfterAWrongEvery);
        Report.sentence("promise 7, 13 of id", empty, FormSentencesTest::theTextIsEmptyAfterAWrongId);
        Report.sentence("promise 7, 11", empty, FormSentencesTest::theTextIsEmptyAfterAnIdThatIsThere);
        Report.sentence("promise 7, 12", empty, FormSentencesTest::theTextIsEmptyAfterANinthForm);
        Report.sentence("promise 7, full text", empty, FormSentencesTest::aFullTextIsEmptyAfterAForm);
        Report.sentence("promise 7", "13 if it has none", FormSentencesTest::aFormOfNoTextIsWrong);
        Report.sentence("promise 7", "every is not 1 .. 255", FormSentencesTest::aFormOfAnotherEveryIsWrong);
        Report.sentence("promise 7", "or there is no such id", FormSentencesTest::aFormOfAnotherIdIsWrong);
        Report.sentence("promise 7", "11 if the id is there", FormSentencesTest::aFormThatIsThereIsNotMadeAgain);
        Report.sentence("promise 7", "12 if 8 are", FormSentencesTest::aNinthFormIsNotMade);
        Report.sentence("promise 7, on", "12 if 8 are", FormSentencesTest::aNinthFormIsNotMadeWhileAllAreOn);
        Report.sentence("promise 7, one gone", "12 if 8 are", FormSentencesTest::anEighthFormIsMadeAgainInEveryPlace);
    }

    private static void removeAndEnable() {
        Report.sentence("promise 8", "The form is gone", FormSentencesTest::aRemovedFormIsGone);
        Report.sentence("promise 8, all", "The form is gone", FormSentencesTest::allFormsCanBeRemoved);
        Report.sentence("promise 8, text", "The form is gone", FormSentencesTest::removeLeavesTheText);
        String none = "14 if there is none such";
        Report.sentence("promise 8", none, FormSentencesTest::removeRefusesAFormThatIsNotThere);
        Report.sentence("promise 8, twice", none, FormSentencesTest::removeTwiceIsRefused);
        Report.sentence("promise 8", "15 if it is on", FormSentencesTest::removeRefusesAFormThatIsOn);
        Report.sentence("promise 9", "It is on, or off", FormSentencesTest::enableTurnsThatFormAlone);
        Report.sentence("promise 9, twice", "It is on, or off", FormSentencesTest::enableTwiceIsAsOnce);
        Report.sentence("promise 9", "14", FormSentencesTest::enableRefusesAFormThatIsNotThere);
    }

    private static void due() {
        Report.sentence("promise 10", "The least id", FormSentencesTest::dueIsTheLeastId);
        Report.sentence("promise 10", "from one on", FormSentencesTest::dueCountsFromTheIdItself);
        Report.sentence("promise 10, below", "from one on", FormSentencesTest::dueFromBelowAllIds);
        Report.sentence("promise 10, above", "from one on", FormSentencesTest::dueFromAboveAllIds);
        Report.sentence("promise 10", "of a form that is on", FormSentencesTest::dueLeavesOutFormsThatAreOff);
        Report.sentence("promise 10, gone", "of a form", FormSentencesTest::dueLeavesOutFormsThatAreGone);
        String divides = "whose EVERY divides a tick";
        Report.sentence("promise 10", divides, FormSentencesTest::dueOfEveryEvery);
        Report.sentence("promise 10, tick 0", divides, FormSentencesTest::dueAtTickZero);
        Report.sentence("promise 10, below 0", divides, FormSentencesTest::dueAtATickBelowZero);
        Report.sentence("promise 10, ends of int", divides, FormSentencesTest::dueAtTheEndsOfTime);
        Report.sentence("promise 10, least", divides, FormSentencesTest::theLeastIdThatDividesIsDue);
        Report.sentence("promise 10", "NONE if there is none", FormSentencesTest::dueWithoutAnyForm);
    }

    private static void parameterAndAbout() {
        Report.sentence("promise 11", "Parameter k of a form, from 0 on", FormSentencesTest::parametersCountFromZero);
        Report.sentence("promise 11", "how many it has, if k is -1", FormSentencesTest::parameterMinusOneIsHowMany);
        String none = "NONE if there is none such";
        Report.sentence("promise 11, no form", none, FormSentencesTest::parameterOfNoFormIsNone);
        Report.sentence("promise 11, no k", none, FormSentencesTest::anotherParameterOfAFormIsNone);
        Report.sentence("promise 13", "what 0: EVERY", FormSentencesTest::aboutZeroIsEvery);
        Report.sentence("promise 13", "1: 1 if it is on, 0 if not", FormSentencesTest::aboutOneIsWhetherItIsOn);
        Report.sentence("promise 13", none, FormSentencesTest::aboutNoFormIsNone);
        Report.sentence("promise 13", "or for another what", FormSentencesTest::aboutAnotherWhatIsNone);
    }

    public static void main(String[] args) {
        terms();
        put();
        form();
        removeAndEnable();
        due();
        parameterAndAbout();
        Report.end();
    }
}
