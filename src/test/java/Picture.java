import java.util.ArrayList;
import java.util.List;

/**
 * All that an object tells, all that lies behind it when it is taken apart, and all that it still takes: objects that
 * are alike have like pictures. With the calls that made it an object stays below its 512 calls.
 */
final class Picture {
    private static final int FAR = 100;

    private final ReignLadders x;
    private final int reigns;
    private final List<String> answers = new ArrayList<>();

    private Picture(ReignLadders x) {
        this.x = x;
        reigns = x.count(0);
    }

    static List<String> of(ReignLadders x) {
        Picture picture = new Picture(x);
        picture.ask();
        picture.askSchools();
        picture.takeApart();
        picture.fillReigns();
        picture.fillPageAndSchools();
        return picture.answers;
    }

    private long note(String call, long answer) {
        answers.add(call + " = " + answer);
        return answer;
    }

    private void ask() {
        note("digest()", x.digest());
        note("fault()", x.fault());
        note("part()", x.part());
        for (int reign = 0; reign < reigns; reign++) {
            for (int count = 0; count <= 1; count++) {
                note("lasts(" + reign + ", " + count + ", 0)", x.lasts(reign, count, 0));
                note("lasts(" + reign + ", " + count + ", 1)", x.lasts(reign, count, 1));
            }
        }
    }

    private void askSchools() {
        int wishes = x.count(5);
        for (int school = 0; school <= 1; school++) {
            note("judge(" + school + ")", x.judge(school));
            askEdition(school, 0);
            askEdition(school, 9);
            for (int reign = 0; reign < reigns; reign++) {
                note("held(" + school + ", 9, " + reign + ", 0)", x.held(school, 9, reign, 0));
                note("held(" + school + ", 9, " + reign + ", 1)", x.held(school, 9, reign, 1));
            }
            for (int wish = 0; wish < wishes; wish++) {
                note("closes(" + school + ", 9, " + wish + ")", x.closes(school, 9, wish));
            }
        }
    }

    private void askEdition(int school, int edition) {
        String which = "(" + school + ", " + edition;
        note("open" + which + ")", x.open(school, edition));
        note("floats" + which + ")", x.floats(school, edition));
        for (int reign = 0; reign < reigns; reign++) {
            note("span" + which + ", " + reign + ", 0)", x.span(school, edition, reign, 0));
            note("span" + which + ", " + reign + ", 1)", x.span(school, edition, reign, 1));
        }
    }

    /** What ties and texts leave behind when the one told last is gone, down to the first. */
    private void takeApart() {
        for (int far = 0; far < FAR && note("undo()", x.undo()) >= 0; far++) {
            note("digest() behind undo()", x.digest());
        }
        for (int school = 0; school <= 1; school++) {
            for (int far = 0; far < FAR && note("strike(" + school + ")", x.strike(school)) >= 0; far++) {
                note("digest() behind strike()", x.digest());
            }
        }
    }

    private void fillReigns() {
        untilRefused("a MISREAD more", () -> x.reign(4, 3, 1, 0, 9));
        untilRefused("a REIGN more", () -> x.reign(4, 0, 1, 0, 9));
        untilRefused("a SKY more", () -> x.sky(0, 1, 0, 0, 0, 0));
        untilRefused("a RING more", () -> x.ring(0, 1, 0, 0));
        untilRefused("a WISH more", () -> x.wish(0, 1, 1, 1, 0));
        untilRefused("a DOUBT more", () -> x.doubt(0, 9, 1));
    }

    private void fillPageAndSchools() {
        untilRefused("eight letters more", () -> x.letters(Due.word("CCCCCCCC")));
        untilRefused("a letter more", () -> x.letters('C'));
        note("blank()", x.blank());
        for (int school = 0; school <= 1; school++) {
            int its = school;
            untilRefused("a TEXT more", () -> {
                x.letters(Due.word("C:1"));
                return x.text(its);
            });
            x.blank();
        }
    }

    interface Asked {
        long answer();
    }

    private void untilRefused(String what, Asked asked) {
        for (int far = 0; far < FAR && note(what, asked.answer()) >= 0; far++) {
            continue;
        }
    }
}
