import java.util.ArrayList;
import java.util.List;
import java.util.function.Consumer;

/**
 * All that an object can be asked, in parts: each is asked of an object of its own, so that none is used for more
 * than 512 calls. Parts that change the object show what can't be asked: THE TEXT, THE IMAGE, what has room.
 */
final class Trace {
    enum Part {
        TOLD, BALLOTS, STAGES, PILES, WOULD_BE, RAISED, TAPES_AHEAD, TAPES_BEHIND, SORTS, ROOM, IMAGE, IMAGE_BALLOTS,
        TEXT, TROUBLE
    }

    private final KeepCount x;
    private final List<Long> answers = new ArrayList<>();

    private Trace(KeepCount x) {
        this.x = x;
    }

    /** What is answered in a part by an object to which something was done first. */
    static List<Long> of(Part part, Made made, Consumer<KeepCount> done) {
        KeepCount x = made.make();
        done.accept(x);
        Trace t = new Trace(x);
        t.ask(part);
        if (t.answers.size() > 300) {
            throw new IllegalStateException(part + " asks too much");
        }
        return t.answers;
    }

    private void add(long answer) {
        answers.add(answer);
    }

    private void ask(Part part) {
        switch (part) {
            case TOLD:
                told();
                break;
            case BALLOTS:
                ballots();
                break;
            case STAGES:
                stages();
                break;
            case PILES:
                piles();
                break;
            case WOULD_BE:
                wouldBe();
                break;
            case RAISED:
                raised();
                break;
            case TAPES_AHEAD:
                items(0, 3);
                break;
            case TAPES_BEHIND:
                items(3, 6);
                break;
            case SORTS:
                sorts();
                break;
            case ROOM:
                room();
                break;
            case IMAGE:
                add(x.undo());
                told();
                wouldBe();
                break;
            case IMAGE_BALLOTS:
                add(x.undo());
                ballots();
                break;
            case TEXT:
                add(x.count(2));
                add(x.read());
                told();
                break;
            default:
                trouble();
        }
    }

    private void told() {
        for (int what = 0; what <= 8; what++) {
            add(x.told(what));
        }
        add(x.count(0));
        add(x.count(1));
        for (int c = 0; c < 8; c++) {
            for (int what = 0; what <= 3; what++) {
                add(x.of(c, what));
            }
            add(x.elected(c));
            add(x.ranked(c));
        }
        add(x.best());
    }

    private void ballots() {
        for (int b = 0; b < 24; b++) {
            for (int what = 0; what <= 2; what++) {
                add(x.ballotOf(b, what));
            }
            for (int i = 0; i < 8; i++) {
                add(x.rowOf(b, i));
            }
        }
    }

    private void stages() {
        for (int s = 0; s < 8; s++) {
            for (int what = 0; what <= 3; what++) {
                add(what < 3 ? x.stageOf(s, what) : 0);
                add(x.amount(s, what));
            }
            for (int c = 0; c < 8; c++) {
                add(x.votes(s, c, 0));
                add(x.votes(s, c, 1));
                add(x.standing(s, c));
            }
        }
    }

    private void piles() {
        for (int k = 0; k < 25; k++) {
            add(x.pile(k, 0));
            add(x.pile(k, 1));
        }
        for (int a = 0; a < 8; a++) {
            for (int b = 0; b < 8; b++) {
                add(x.preferred(a, b));
            }
            add(x.share(0, a, 0));
            add(x.share(0, a, 1));
        }
    }

    private void wouldBe() {
        for (int c = 0; c < 8; c++) {
            add(x.without(c));
            add(x.needs(c, 1));
            add(x.needs(c, 10000));
        }
        add(x.fits(0));
        add(x.fits(1));
        add(x.after());
    }

    private void raised() {
        for (int b = 0; b < 24; b++) {
            for (int c = 0; c < 8; c++) {
                add(x.raised(b, c));
            }
        }
    }

    private void items(int from, int to) {
        for (int tape = from; tape < to; tape++) {
            for (int i = 0; i <= 60; i++) {
                add(x.peek(tape, i));
            }
        }
    }

    private void sorts() {
        for (int tape = 0; tape < 6; tape++) {
            for (int other = 0; other < 6; other++) {
                add(x.shift(tape, 0, other, 0, 0));
            }
            add(x.judge(0, tape, 0));
        }
        for (int tape = 0; tape < 6; tape++) {
            add(x.item(tape, 0, 0x1234567890abcdefL));
            add(x.peek(tape, 0));
        }
    }

    private void room() {
        while (answers.size() < 200 && x.feed('c') >= 0) {
            add(x.count(2));
        }
        while (answers.size() < 220 && x.event(2, 1) >= 0) {
            add(x.count(1));
        }
        while (answers.size() < 240 && x.candidate() >= 0) {
            add(x.told(0));
        }
        while (answers.size() < 260 && x.see(0, true) >= 0) {
            add(x.count(0));
        }
        while (answers.size() < 290 && x.ballot(1, 0) >= 0) {
            add(x.told(1));
        }
    }

    private void trouble() {
        for (int i = 0; i <= 4; i++) {
            add(x.cause(i, 0));
            add(x.cause(i, 1));
        }
    }
}
