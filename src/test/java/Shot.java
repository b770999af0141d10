import java.util.ArrayList;
import java.util.List;

/** What an object answers, in fewer than 200 calls: two shots and a run between them stay below 512. */
final class Shot {
    private final List<Long> answers = new ArrayList<>();

    Shot(TaleSums x) {
        int sentences = x.sentences();
        answers.add((long) sentences);
        for (int i = 0; i < sentences; i++) {
            for (int what = 0; what < 7; what++) {
                answers.add((long) x.sentence(i, what));
            }
        }
        for (int what = 0; what < 5; what++) {
            answers.add((long) x.question(what));
            answers.add((long) x.count(what));
        }
        for (int what = 0; what < 3; what++) {
            answers.add((long) x.strange(what));
        }
        answers.add(x.answer(0));
        answers.add(x.answer(1));
        int last = Math.max(0, x.count(2) - 1);
        for (int place = 0; place < 32; place++) {
            answers.add(x.amount(place % 8, place / 8, 0, 0));
            answers.add(x.amount(place % 8, place / 8, last, 1));
        }
        answers.add((long) x.quarrel());
        answers.add((long) x.idle());
        answers.add((long) x.enough());
        answers.add((long) x.lacking());
        answers.add((long) x.fault());
    }

    static void same(String call, Shot before, Shot after) {
        Check.due(call + " changed nothing", before.answers.equals(after.answers), true);
    }
}
