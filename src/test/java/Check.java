/** Counts answers, and tells every one that is not as due. */
final class Check {
    private final String name;
    private String sentence = "";
    private int sentences = 0;
    private int answers = 0;
    private int answersBefore = 0;
    private int wrong = 0;

    Check(String name) {
        this.name = name;
    }

    /** The answers that follow are those that a sentence of the document asks for: one at least. */
    void sentence(String text) {
        if (sentences > 0 && answers == answersBefore) {
            throw new IllegalStateException("no answer for: " + sentence);
        }
        sentences++;
        answersBefore = answers;
        sentence = text;
    }

    void same(String what, long got, long due) {
        answers++;
        if (got != due) {
            wrong++;
            if (wrong <= 40) {
                String about = sentence.isEmpty() ? "" : " (\"" + sentence + "\")";
                System.out.println(name + ": " + what + " answered " + got + ", due is " + due + about);
            }
        }
    }

    void same(String what, boolean got, boolean due) {
        same(what, got ? 1 : 0, due ? 1 : 0);
    }

    void finish() {
        String of = sentences > 0 ? sentences + " sentences, " : "";
        System.out.println(name + ": " + of + answers + " answers, " + wrong + " wrong");
        if (wrong != 0 || answers == 0 || sentences > 0 && answers == answersBefore) {
            System.exit(1);
        }
    }
}
