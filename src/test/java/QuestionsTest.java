/** Promises 7 to 12: type, wipe, fault, asks, counts, share. */
public final class QuestionsTest {
    private static final Check CHECK = new Check();

    public static void main(String[] args) {
        type();
        wipe();
        faultOfQuestions();
        faultOfHabits();
        asks();
        asksOpen();
        counts();
        share();
        shareOfNone();
        CHECK.end();
    }

    private static void type() {
        FormRoom x = new FormRoom();
        for (int text = 0; text < 5; text++) {
            int most = text < 2 ? 60 : 12;
            for (int i = 1; i <= most; i++) {
                CHECK.due("type " + text, x.type(text, i % 2 == 0 ? 0 : 255), i);
            }
            CHECK.due("full " + text, x.type(text, 1), -4);
            CHECK.due("BAD ahead of FULL", x.type(text, 256), -2);
        }
        CHECK.due("bytes", x.count(2), 156);
        CHECK.due("text 5", x.type(5, 1), -2);
        CHECK.due("text -1", x.type(-1, 1), -2);
        CHECK.due("byte -1", new FormRoom().type(0, -1), -2);
        CHECK.due("byte 256", new FormRoom().type(2, 256), -2);
    }

    private static void wipe() {
        FormRoom x = new FormRoom();
        Check.type(x, 1, "k=1|?");
        CHECK.due("fault", x.fault(1), 4);
        CHECK.due("wipe", x.wipe(1), 5);
        CHECK.due("wiped", x.wipe(1), 0);
        CHECK.due("empty", x.fault(1), 0);
        Check.type(x, 1, "a>0");
        CHECK.due("new", x.fault(1), -1);
        Check.type(x, 4, "nx");
        CHECK.due("habit", x.wipe(4), 2);
        CHECK.due("habit's fault", x.fault(4), -1);
        CHECK.due("no text", x.wipe(5), -2);
        CHECK.due("no text", x.wipe(-1), -2);
    }

    private static void faultOfQuestions() {
        faultDue("", 0);
        faultDue("k", 1);
        faultDue("k=", 2);
        faultDue("k=1", -1);
        faultDue("k=12", -1);
        faultDue("k=123", -1);
        faultDue("k=1234", 5);
        faultDue("k=000", -1);
        faultDue("kk", 1);
        faultDue("=", 0);
        faultDue("k1", 1);
        faultDue("k==1", 2);
        faultDue("k=&", 2);
        faultDue("k=1&", 4);
        faultDue("k=1|", 4);
        faultDue("k=1|&", 4);
        faultDue("k=1&&", 4);
        faultDue("k=1&r<7|w>50&a=1|b=2&c>999", -1);
        faultDue("d=1", 0);
        faultDue("K=1", 0);
        faultDue("k=1 ", 3);
        faultDue("k=1&x=2|", 4);
        faultDue("k=/", 2);
        faultDue("k=:", 2);
        faultDue("k=1a", 3);
        String fifteen = "k=1&k=1&k=1&k=1&k=1&k=1&k=1&k=1&k=1&k=1&k=1&k=1&k=1&k=1&k=1";
        faultDue(fifteen, -1);
        faultDue(fifteen + "|", 60);
        faultDue(fifteen + "9", -1);
        FormRoom x = new FormRoom();
        CHECK.due("no text", x.fault(5), -2);
        CHECK.due("no text", x.fault(-1), -2);
    }

    private static void faultDue(String text, int place) {
        FormRoom x = new FormRoom();
        for (int question = 0; question < 2; question++) {
            Check.type(x, question, text);
            CHECK.due("fault of " + text, x.fault(question), place);
        }
    }

    private static void faultOfHabits() {
        FormRoom x = new FormRoom();
        Check.type(x, 2, "nesw.");
        CHECK.due("none", x.fault(2), -1);
        Check.type(x, 3, "nsx.y");
        CHECK.due("first other", x.fault(3), 2);
        Check.type(x, 4, "N");
        CHECK.due("N", x.fault(4), 0);
    }

    private static void asks() {
        FormRoom x = new FormRoom();
        x.form(3, 5, 42, 100, 0, 999);
        answerDue(x, "k=3", 1);
        answerDue(x, "k<3", 0);
        answerDue(x, "k>2", 1);
        answerDue(x, "r=5&w=42&a=100&b=0&c=999", 1);
        answerDue(x, "r=5&w=41", 0);
        answerDue(x, "r=4|w=42", 1);
        answerDue(x, "r=4&w=42|a=1", 0);
        answerDue(x, "r=4|w=42&a=1", 0);
        answerDue(x, "r=4|w=42&a>99", 1);
        answerDue(x, "b<0", 0);
        answerDue(x, "b<1", 1);
        answerDue(x, "c>998", 1);
        answerDue(x, "c>999", 0);
        answerDue(x, "a=0100", -3);
        answerDue(x, "w=042", 1);
        answerDue(x, "k", -3);
        answerDue(x, "", -3);
        Check.type(x, 0, "k=3");
        CHECK.due("question 2", x.asks(2, 0), -2);
        CHECK.due("question -1", x.asks(-1, 0), -2);
        CHECK.due("no form", x.asks(0, 1), -2);
        CHECK.due("no form", x.asks(0, -1), -2);
        CHECK.due("BAD ahead of NOT", x.asks(1, 1), -2);
        x.asOf(0);
        CHECK.due("a form that is not known", x.asks(0, 0), 1);
    }

    private static void asksOpen() {
        FormRoom x = new FormRoom();
        x.form(1, 0, 7, -1, -1, 5);
        answerDue(x, "a=1", 2);
        answerDue(x, "a<0", 2);
        answerDue(x, "b>999", 2);
        answerDue(x, "a=1&c=5", 2);
        answerDue(x, "a=1&c=4", 0);
        answerDue(x, "c=4&a=1", 0);
        answerDue(x, "a=1|c=5", 1);
        answerDue(x, "c=5|a=1", 1);
        answerDue(x, "a=1|c=4", 2);
        answerDue(x, "c=4|a=1", 2);
        answerDue(x, "c=4|a=1&k=0|b=3&w=7", 2);
        answerDue(x, "a=1|a<1|a>1", 2);
    }

    private static void answerDue(FormRoom x, String question, int due) {
        for (int q = 0; q < 2; q++) {
            Check.type(x, q, question);
            CHECK.due("asks " + question, x.asks(q, 0), due);
            x.wipe(q);
        }
    }

    private static void counts() {
        FormRoom x = new FormRoom();
        x.form(0, 0, 10, 5, 0, 0);
        x.form(0, 0, 20, -1, 0, 0);
        x.form(0, 0, 30, 5, 0, 0);
        x.form(0, 0, 40, 6, 0, 0);
        CHECK.due("NOT", x.counts(0, 0), -3);
        Check.type(x, 0, "a=5");
        CHECK.due("yes", x.counts(0, 0), 2);
        CHECK.due("open", x.counts(0, 1), 1);
        x.asOf(29);
        CHECK.due("yes as of", x.counts(0, 0), 1);
        x.asOf(19);
        CHECK.due("open as of", x.counts(0, 1), 0);
        CHECK.due("what 2", x.counts(0, 2), -2);
        CHECK.due("what -1", x.counts(0, -1), -2);
        CHECK.due("question 2", x.counts(2, 0), -2);
        CHECK.due("BAD ahead of NOT", x.counts(1, 2), -2);
    }

    private static void share() {
        FormRoom x = new FormRoom();
        Check.type(x, 0, "a=1");
        Check.type(x, 1, "b=1");
        int[] boxes = {1, 0, -1};
        for (int a : boxes) {
            for (int b : boxes) {
                x.form(0, 0, 5, a, b, 0);
            }
        }
        // surely: 3 of the first, 1 of both; the least takes in two more of the first, so does the greatest
        CHECK.parts("least", x.share(0, 0), x.share(0, 1), 1, 5);
        CHECK.parts("greatest", x.share(1, 0), x.share(1, 1), 4, 5);
        x.form(0, 0, 6, 1, 1, 0);
        CHECK.parts("least", x.share(0, 0), x.share(0, 1), 1, 3);
        CHECK.parts("greatest", x.share(1, 0), x.share(1, 1), 5, 6);
        x.asOf(4);
        CHECK.parts("none known", x.share(1, 0), x.share(1, 1), 0, 1);
        CHECK.due("end 2", x.share(2, 0), Check.BAD_LONG);
        CHECK.due("what 2", x.share(0, 2), Check.BAD_LONG);
        CHECK.due("end -1", x.share(-1, 0), Check.BAD_LONG);
        x.wipe(1);
        CHECK.due("second's fault", x.share(0, 0), Check.NOT_LONG);
        Check.type(x, 1, "b=1");
        x.wipe(0);
        CHECK.due("first's fault", x.share(0, 0), Check.NOT_LONG);
        CHECK.due("BAD ahead of NOT", x.share(0, -1), Check.BAD_LONG);
    }

    private static void shareOfNone() {
        FormRoom x = new FormRoom();
        Check.type(x, 0, "a=1");
        Check.type(x, 1, "b=1");
        x.form(0, 0, 0, -1, 1, 0);
        CHECK.parts("least", x.share(0, 0), x.share(0, 1), 0, 1);
        CHECK.parts("greatest", x.share(1, 0), x.share(1, 1), 1, 1);
        x.fill(0, 1, 0);
        CHECK.parts("greatest of no", x.share(1, 0), x.share(1, 1), 0, 1);
        x.fill(0, 0, 0);
        x.fill(0, 1, -1);
        CHECK.parts("none of the first", x.share(1, 0), x.share(1, 1), 0, 1);
    }
}
