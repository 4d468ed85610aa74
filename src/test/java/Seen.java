import java.util.ArrayList;
import java.util.List;

/** All that an object's answers tell, in some 300 calls: what no look shows is brought out at the end, so it is used up. */
final class Seen {
    private static final int[] NUMBERS = {8, 8, 8, 4, 4, 4, 4, 4, 6, 1, 1, 3, 8, 6, 1, 1};

    private final List<Long> answers = new ArrayList<>();

    static List<Long> all(OtherSide x) {
        Seen seen = new Seen();
        seen.things(x, 0, 16);
        seen.weights(x);
        for (int what = 0; what < 6; what++) {
            seen.add(x.count(what));
        }
        for (int i = 0; i < 11; i++) {
            seen.add(x.trace(i));
        }
        for (int shelf = 0; shelf < 6; shelf++) {
            seen.add(x.taken(shelf, 0));
            for (int i = 0; i < 5; i++) {
                seen.add(x.element(shelf, i));
            }
        }
        seen.hidden(x);
        return seen.answers;
    }

    private void hidden(OtherSide x) {
        for (int body = 0; body < 4; body++) {
            add(x.act(body, 3, 5));
        }
        add(x.law());
        weights(x);
        for (int i = 0; i < 3; i++) {
            add(x.redo());
        }
        things(x, 0, 12);
        add(x.back());
        things(x, 12, 16);
        for (int i = 0; i < 8; i++) {
            add(x.undo());
        }
        things(x, 0, 12);
        add(x.putBack());
    }

    private void things(OtherSide x, int from, int to) {
        for (int what = from; what < to; what++) {
            for (int number = 0; number < NUMBERS[what]; number++) {
                add(x.of(number, what));
            }
        }
    }

    private void weights(OtherSide x) {
        for (int card = 0; card < 8; card++) {
            add(x.weight(card, 0));
            add(x.weight(card, 1));
        }
    }

    private void add(long answer) {
        answers.add(answer);
    }
}
