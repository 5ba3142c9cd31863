import java.util.NoSuchElementException;

/** Counts the answers that are not as due, and ends the program by that count. */
final class Check {
    static final int ARGUMENT = 1;
    static final int STATE = 2;
    static final int MISSING = 3;

    private int wrong;
    private int asked;
    private int sentences;
    private String sentence = "";
    private int askedBefore;

    /** Names the sentence of the document to which the next answers belong, so that a wrong one tells it. */
    void sentence(String words) {
        endSentence();
        sentences++;
        sentence = words;
        askedBefore = asked;
    }

    /** A sentence for which nothing was asked is not tested, whatever the test's name says. */
    private void endSentence() {
        if (!sentence.isEmpty() && asked == askedBefore) {
            wrong++;
            System.out.println("nothing was asked for: " + sentence);
        }
    }

    void same(String what, long due, long got) {
        asked++;
        if (got != due) {
            wrong++;
            System.out.println(what + " answered " + got + ", due is " + due);
            if (!sentence.isEmpty()) {
                System.out.println("    for: " + sentence);
            }
        }
    }

    void text(String what, String due, String got) {
        same(what + " (1 as due: " + due + "; is: " + got + ")", 1, got.equals(due) ? 1 : 0);
    }

    void yes(String what, boolean got) {
        same(what, 1, got ? 1 : 0);
    }

    void no(String what, boolean got) {
        same(what, 0, got ? 1 : 0);
    }

    void argument(String what, Runnable call) {
        same(what + " throws", ARGUMENT, thrownBy(call));
    }

    void state(String what, Runnable call) {
        same(what + " throws", STATE, thrownBy(call));
    }

    void missing(String what, Runnable call) {
        same(what + " throws", MISSING, thrownBy(call));
    }

    /** Which of the document's exceptions a call throws, 0 if none; any other one goes on. */
    static int thrownBy(Runnable call) {
        try {
            call.run();
            return 0;
        } catch (IllegalArgumentException e) {
            return ARGUMENT;
        } catch (IllegalStateException e) {
            return STATE;
        } catch (NoSuchElementException e) {
            return MISSING;
        }
    }

    /** A packet of the fabric, as its pair, kind, number, cells, mark and place. */
    void packet(String what, RemoteReach x, int k, int... due) {
        for (int i = 0; i < due.length; i++) {
            same(what + ": packet(" + k + ", " + i + ")", due[i], x.packet(k, i));
        }
    }

    /** The first completion of a node, as its pair, kind, serial, status and length; it is gone then. */
    void completion(String what, RemoteReach x, int node, int... due) {
        if (x.completions(node) <= 0) {
            same(what + ": completions(" + node + ") is above 0", 1, 0);
            return;
        }
        for (int i = 0; i < due.length; i++) {
            same(what + ": poll(" + node + ", " + i + ")", due[i], x.poll(node, i));
        }
        same(what + ": poll(" + node + ", -1)", 0, x.poll(node, -1));
    }

    /** What pair answers for NEXT, OLDEST, the cursor and EXPECTED. */
    void numbers(String what, RemoteReach x, int q, int... due) {
        for (int i = 0; i < due.length; i++) {
            same(what + ": pair(" + q + ", " + (i + 1) + ")", due[i], x.pair(q, i + 1));
        }
    }

    void end() {
        endSentence();
        if (sentences > 0) {
            System.out.println(sentences + " sentences");
        }
        System.out.println(asked - wrong + " answers as due, " + wrong + " not");
        if (wrong != 0) {
            System.exit(1);
        }
    }
}
