import java.util.Arrays;

/**
 * All that can be learnt of an object by calls. It takes more calls than one object may have, and some of them change
 * it, so it comes in parts, each of which uses up an object of its own.
 */
final class Snapshot {
    static final int PARTS = 15;

    private final Counted y;
    private final int[] answers = new int[512];
    private int size = 0;

    private Snapshot(Counted y) {
        this.y = y;
    }

    static int[] of(Counted y, int part) {
        Snapshot s = new Snapshot(y);
        s.take(part);
        return Arrays.copyOf(s.answers, s.size);
    }

    private void take(int part) {
        switch (part) {
            case 0: things(); break;
            case 1: boxesAndHeights(); break;
            case 2: case 3: case 4: waters(part - 2); break;
            case 5: plans(); break;
            case 6: shorts(); break;
            case 7: sizes(); break;
            case 8: bytesAndFloats(); break;
            case 9: answersOfChanges(); break;
            case 10: whatComes(); break;
            case 11: back(); things(); break;
            case 12: back(); boxesAndHeights(); break;
            case 13: back(); answersOfChanges(); break;
            default: for (int i = 0; i < 12; i++) back();
        }
    }

    private void note(int answer) {
        answers[size] = answer;
        size++;
    }

    private void noteAll(int answer) {
        note(answer);
        note(y.status());
    }

    private void things() {
        for (int what = 0; what <= 9; what++) note(y.count(what));
        for (int i = 0; i <= 8; i++) note(y.trace(i));
        for (int k = 0; k < 10; k++) for (int what = 0; what <= 5; what++) note(y.stretchTold(k, what));
        for (int b = 0; b < 5; b++) boat(b);
        for (int i = 0; i < 12; i++) for (int what = 0; what <= 4; what++) note(y.baleTold(i, what));
        note(y.lights());
    }

    private void boat(int b) {
        for (int what = 0; what <= 5; what++) note(y.boatTold(b, what));
        note(y.why(b, true));
        note(y.why(b, false));
        for (int k = 0; k < 10; k++) for (int what = 0; what <= 1; what++) note(y.knows(b, k, what));
    }

    private void boxesAndHeights() {
        for (int l = 0; l <= 10; l++) {
            for (int k = 0; k < 10; k++) for (int what = 0; what <= 1; what++) note(y.box(l, k, what));
        }
        for (int day = 0; day < 100; day++) note(y.height(day));
    }

    private void waters(int third) {
        for (int k = 0; k < 10; k++) for (int day = third; day < 100; day += 3) note(y.water(k, day));
    }

    private void plans() {
        for (int b = 0; b < 5; b++) for (int water : new int[] {0, 10, 999}) note(y.lading(b, water));
        for (int from = 0; from <= 10; from++) for (int to = 0; to <= 10; to++) note(y.wooding(0, from, to));
        for (int to = 0; to <= 10; to++) for (int i = 0; i < 4; i++) note(y.bought(0, 0, to, i));
        for (int k = 0; k < 8; k++) {
            for (int a = 0; a < 5; a++) for (int b = 0; b < a; b++) note(y.gives(a, b, k, true, false));
        }
    }

    private void shorts() {
        for (int k = 0; k < 4; k++) for (int i = 0; i < 40; i++) noteAll(y.forge(2, i, k));
    }

    private void sizes() {
        for (int k = 0; k < 4; k++) for (int i = 0; i <= 40; i++) noteAll(y.cell(k, i, 0));
    }

    private void bytesAndFloats() {
        for (int k = 0; k < 4; k++) {
            for (int n = -1; n <= 3; n++) noteAll(y.forge(3, n, k));
            for (int i = 0; i < 10; i++) {
                noteAll(y.gauges(80, k, i, 1));
                note(y.height(80));
            }
        }
    }

    /** What shows only in what a call answers: prices, cold, light, how many days were told, the next numbers. */
    private void answersOfChanges() {
        for (int l = 0; l <= 10; l++) noteAll(y.yard(l, 0));
        for (int day = 0; day < 100; day++) note(y.cold(day, false));
        for (int k = 0; k < 10; k++) noteAll(y.light(k, false));
        noteAll(y.gauge(0, 0));
        noteAll(y.stretch(0, 1, 1));
        noteAll(y.boat(0, 1, 1, 1));
        noteAll(y.bale(0, 1, 1, 1));
        noteAll(y.trip(0, 1, 1));
        noteAll(y.rule(0, 0, 0));
    }

    private void whatComes() {
        for (int n : new int[] {1, 1, 1, 1, 2, 4, 8, 96}) {
            noteAll(y.go(n));
            for (int b = 0; b < 5; b++) for (int what = 0; what <= 2; what++) note(y.boatTold(b, what));
        }
        y.gauge(1, 40);
        for (int b = 0; b < 5; b++) {
            noteAll(y.off(b));
            noteAll(y.leave(b, true));
            noteAll(y.leave(b, false));
        }
        noteAll(y.go(200));
        for (int i = 0; i < 12; i++) noteAll(y.land(i));
        note(y.count(6));
    }

    private void back() {
        noteAll(y.back());
    }
}
