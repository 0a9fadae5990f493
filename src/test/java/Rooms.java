/** Rooms with something in every corner, for the tests of what a refused call leaves alone. */
final class Rooms {
    private Rooms() {
    }

    /** Eight FORMS, two of them not KNOWN; each SHEET but the last has what some call takes; it is LOST. */
    static FormRoom lively(int finding) {
        FormRoom x = new FormRoom();
        x.form(1, 2, 48, 10, 100, -1);
        x.form(1, 3, 51, -1, 7, 3);
        x.form(2, 0, 20, 10, 1, 0);
        x.form(2, 1, 30, 45, 3, -1);
        x.form(0, 2, 10, 5, -1, 2);
        x.form(3, 7, 60, 8, 8, 8);
        x.form(1, 2, 61, 9, 9, 9);
        x.form(2, 5, 99, 20, 20, -1);
        x.asOf(60);
        Check.type(x, 0, "k=1&a<30|c>0");
        Check.type(x, 1, "b=100|r=2");
        Check.type(x, 2, "en");
        Check.type(x, 3, "ssw.");
        Check.type(x, 4, "n?");
        int[] laws = {19, 290, 31, 21, 4, 5, 3};
        for (int which = 0; which < laws.length; which++) {
            x.law(which, laws[which]);
        }
        x.sea(0, 1 << 3 | 1 << 11 | 1 << 12 | 1 << 24);
        x.sea(1, 1);
        x.habit(0, 3);
        x.habit(1, 2);
        x.habit(2, 7);
        Check.lay(x, 0, 0, 12, 13, 8, 3, 4, 5, 1);
        Check.lay(x, 1, 1, 0, 3, 3, 20, 999);
        Check.lay(x, 2, 2, 4, 10, 2, 9, 20, 99);
        bringFinding(x, finding);
        return x;
    }

    /** All is full or wrong: forty FORMS of one KIND, texts with FAULTS to the last byte, SHEETS that no call takes. */
    static FormRoom troubled(int finding) {
        FormRoom x = new FormRoom();
        x.sheet(0, 1, 60);
        for (int i = 0; i < 4; i++) {
            x.read(0);
        }
        for (int text = 0; text < 5; text++) {
            for (int i = 0; i < (text < 2 ? 60 : 12); i++) {
                x.type(text, 'x');
            }
        }
        Check.lay(x, 0, 0, 12, 25, 8);
        Check.lay(x, 1, 1, 5, 4, 21, 1);
        Check.lay(x, 2, 2, 1, 1, 1, 1, 1, 1, 1, 1, 1, 1, 1, 1, 1, 1);
        bringFinding(x, finding);
        return x;
    }

    private static void bringFinding(FormRoom x, int finding) {
        if (finding == 1) {
            x.lose(3);
        } else {
            x.sheet(3, 0, -1);
        }
    }
}
