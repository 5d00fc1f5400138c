/** Counts the answers of one test that are not as due. */
final class Check {
    private final String test;
    private String sentence = "";
    private int sentences;
    private int atSentence;
    private int right;
    private int wrong;

    Check(String test) {
        this.test = test;
    }

    /** What follows tests this sentence of the document. */
    void sentence(String words) {
        endSentence();
        sentence = "\"" + words + "\": ";
        sentences++;
        atSentence = right + wrong;
    }

    private void endSentence() {
        if (sentences > 0 && right + wrong == atSentence) {
            note(false, "a sentence without a test", "nothing", "something");
        }
    }

    void is(String what, long answer, long due) {
        note(answer == due, what, String.valueOf(answer), String.valueOf(due));
    }

    void is(String what, boolean answer, boolean due) {
        note(answer == due, what, String.valueOf(answer), String.valueOf(due));
    }

    void is(String what, double answer, double due) {
        note(answer == due, what, String.valueOf(answer), String.valueOf(due));
    }

    void is(String what, String answer, String due) {
        note(answer.equals(due), what, answer, due);
    }

    void throwsIndex(BottleShip x, String what, Runnable call) {
        throwsKind(x, what, call, IndexOutOfBoundsException.class);
    }

    void throwsArgument(BottleShip x, String what, Runnable call) {
        throwsKind(x, what, call, IllegalArgumentException.class);
    }

    void throwsState(BottleShip x, String what, Runnable call) {
        throwsKind(x, what, call, IllegalStateException.class);
    }

    /** Exactly this exception is due, and an object that is as it was before. */
    private void throwsKind(BottleShip x, String what, Runnable call, Class<?> due) {
        String before = Told.all(x);
        String answer = "nothing";
        try {
            call.run();
        } catch (RuntimeException e) {
            answer = e.getClass().getName();
        }
        note(answer.equals(due.getName()), what + " throws", answer, due.getName());
        is(what + " changes nothing", Told.all(x), before);
    }

    private void note(boolean good, String what, String answer, String due) {
        if (good) {
            right++;
        } else {
            wrong++;
            System.out.println(test + ": " + sentence + what + " answered " + answer + ", due is " + due);
        }
    }

    void end() {
        endSentence();
        System.out.println(test + ": " + right + " as due, " + wrong + " not");
        if (wrong > 0 || right == 0) {
            System.exit(1);
        }
    }
}
