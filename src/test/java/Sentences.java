/** Tests that bear the sentence of the document which they hold the program to, each with answers of its own. */
final class Sentences {
    interface Test {
        void ask(Due due);
    }

    private int held = 0;
    private int broken = 0;
    private int asked = 0;

    void hold(String sentence, Test test) {
        Due due = new Due();
        boolean ended = false;
        try {
            test.ask(due);
            ended = true;
        } catch (RuntimeException e) {
            System.out.println("a call that only leads to the question threw " + e);
        }
        asked += due.asked();
        if (ended && due.isHeld()) {
            held++;
        } else {
            broken++;
            System.out.println("NOT HELD: " + sentence);
        }
    }

    void end() {
        System.out.println(held + " sentences held, " + broken + " not (" + asked + " answers asked for)");
        if (broken != 0 || held == 0) {
            System.exit(1);
        }
    }
}
