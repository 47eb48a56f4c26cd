import java.util.ArrayList;
import java.util.List;

/** Inns of a text, and all that can be asked of one. */
final class Inns {
    /** The fewest beds and guests that there can be, and the most. */
    static final String SMALLEST = "n2;g0,30,0,1,1;";
    static final String LARGEST = "n6;g0,1,0,1,0;g0,2,1,2,1;g0,3,2,3,2;g0,4,3,4,3;g0,5,4,5,4;";

    private Inns() { }

    static BedsBySnore add(BedsBySnore x, String text) {
        for (char c : text.toCharArray()) {
            x.write(c);
        }
        return x;
    }

    static BedsBySnore written(String text) {
        return add(new BedsBySnore(), text);
    }

    static BedsBySnore laid(String text) {
        BedsBySnore x = written(text);
        if (x.lay() < 1) {
            throw new IllegalStateException(text + " is not laid");
        }
        return x;
    }

    /** The same inn, so many hours later. */
    static BedsBySnore later(BedsBySnore x, int hours) {
        for (int k = 0; k < hours; k++) {
            x.hour();
        }
        return x;
    }

    /** What acts change: 21 calls. */
    static List<Integer> lie(BedsBySnore x) {
        List<Integer> answers = new ArrayList<>();
        for (int what = 0; what < 7; what++) {
            answers.add(x.count(what));
        }
        for (int b = 0; b < 6; b++) {
            answers.add(x.bed(b));
        }
        for (int p = 0; p < 5; p++) {
            answers.add(x.wall(p));
        }
        for (int what = 0; what < 3; what++) {
            answers.add(x.steps(what));
        }
        return answers;
    }

    /** What can be seen without changing anything: 105 calls. */
    static List<Integer> whole(BedsBySnore x) {
        List<Integer> answers = lie(x);
        answers.add(x.count(7));
        answers.add(x.fault());
        answers.add(x.feigned());
        for (int i = 0; i < 5; i++) {
            for (int what = 0; what < 8; what++) {
                answers.add(x.guest(i, what));
            }
            answers.add(x.law(i));
            answers.add(x.hums(i));
            answers.add(x.odds(i, 5, 0));
            answers.add(x.best(0, i));
            answers.add(x.within(9, i));
        }
        for (int hour = -1; hour < 8; hour++) {
            answers.add(x.night(hour));
        }
        for (int what = 0; what < 2; what++) {
            answers.add(x.moves(what));
            answers.add(x.wallTo(what));
            answers.add(x.day(9999, 30, what));
        }
        answers.add(x.law(-1));
        return answers;
    }

    /** The same, and then all that can be undone and was kept, till nothing of it is left: 340 calls. */
    static List<Integer> unwound(BedsBySnore x) {
        List<Integer> answers = whole(x);
        for (int left = x.undo(); left >= 0; left = x.undo()) {
            answers.add(left);
            answers.addAll(lie(x));
        }
        for (int left = x.back(); left >= 0; left = x.back()) {
            answers.add(left);
            answers.addAll(lie(x));
        }
        answers.add(x.forget());
        answers.add(x.wipe());
        return answers;
    }
}
