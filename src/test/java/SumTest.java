/** SUMS and TESTS, and which value each word has where. */
public final class SumTest {
    public static void main(String[] args) {
        sums();
        limits();
        tests();
        wordsInStrokes();
        wordsInSaved();
        wordsInSlide();
        wordsInPicks();
        Check.end();
    }

    /** What a SUM is, 0 .. 99: so much comes out by a stroke of a STAIN 99 deep. */
    private static void sum(String sum, int want) {
        ZincSermon x = Check.chapel("board b ribs 3 zinc 5;stain s deep 99 stuff 4;water 6;out " + sum + ";");
        Check.due("the SUM " + sum, 99 - x.strokes(0, 0, 1), want);
    }

    private static void test(String test, boolean want) {
        sum("if(" + test + ",1,2)", want ? 1 : 2);
    }

    private static void sums() {
        sum("7", 7);
        sum("0007", 7);
        sum("ribs", 3);
        sum("zinc", 5);
        sum("deep", 99);
        sum("stuff", 4);
        sum("water", 6);
        sum("week", 0);
        sum("rub", 1);
        sum("bone", 0);
        sum("1+2*3", 7);
        sum("(1+2)*3", 9);
        sum("20-5-3", 12);
        sum("20-(5-3)", 18);
        sum("100/5/2", 10);
        sum("100/(5/2)", 50);
        sum("7/2*2", 6);
        sum("7*2/2", 7);
        sum("17%10%4", 3);
        sum("2*3%4", 2);
        sum("10-7/2", 7);
        sum("10+(0-7)/2", 6);
        sum("10+(0-7)%2", 11);
        sum("10+7/(0-2)", 6);
        sum("10+7%(0-2)", 9);
        sum("10+(0-7)/(0-2)", 13);
        sum("10+(0-7)%(0-2)", 9);
        sum("5+7/0", 5);
        sum("5+7%0", 5);
        sum("min(3,8)+max(3,8)*2", 19);
        sum("min(0-3,2)+9", 6);
        sum("max(min(9,7),min(8,6))", 7);
        sum("if(all,1,2)+if(not all,4,8)", 9);
        sum("0-5", 0);
        sum("500", 99);
    }

    private static void limits() {
        sum("9999*9999/(100*200)", 50);
        sum("9999*9999*9999/(100*200)", 50);
        sum("9999*9999-9999*100-99", 1);
        sum("9999*9999+9999*9999-9999*100-90", 10);
        sum("(0-9999)*9999/(100*200)+60", 10);
        sum("(0-9999)*9999-9999+9999*100+109", 9);
        sum("0-(0-9999)*9999*9999/(100*200)", 50);
    }

    private static void tests() {
        test("1<2", true);
        test("2<2", false);
        test("3>2", true);
        test("2>2", false);
        test("2=2", true);
        test("2=3", false);
        test("all", true);
        test("not all", false);
        test("not not all", true);
        test("not 1<2 or all", true);
        test("not[1<2 or all]", false);
        test("all or all and not all", true);
        test("[all or all]and not all", false);
        test("not all and not all or all", true);
        test("not all and[not all or all]", false);
        test("not all or not all", false);
        test("not 2<1 and 1+1=2", true);
        test("if(all,3,4)=3", true);
    }

    private static void wordsInStrokes() {
        // zinc 7, 4, 1, 0, 0 ahead of the strokes; bone only where none is left.
        ZincSermon x = Check.chapel("board b ribs 3 zinc 7;stain s deep 50 stuff 4;wear 3;out if(bone=1,10+zinc,zinc);");
        int[] left = {50, 43, 39, 38, 28, 18, 8, 0, 0};
        for (int n = 0; n < left.length; n++) {
            Check.due("bone strokes " + n, x.strokes(0, 0, n), left[n]);
        }
        x = Check.chapel("board b ribs 3 zinc 99;stain s deep 99 stuff 4;out rub*rub;");
        int[] squares = {99, 98, 94, 85, 69, 44, 8, 0};
        for (int n = 0; n < squares.length; n++) {
            Check.due("rub strokes " + n, x.strokes(0, 0, n), squares[n]);
        }
        // wear goes by the depth ahead of the stroke: 9, then 5, then 1.
        x = Check.chapel("board b ribs 3 zinc 99;stain s deep 9 stuff 4;out 4;wear deep;");
        Check.due("sermon", x.sermon(0, 0, 3), 9);
        Check.due("zinc", x.board(0, 1), 99 - 9 - 5 - 1);
        x = Check.chapel("board b ribs 3 zinc 99;stain s deep 9 stuff 4;out 4;wear if(rub=1,10,0-1);");
        x.sermon(0, 0, 3);
        Check.due("wear is 0 .. 9", x.board(0, 1), 90);
        x = Check.chapel("board b ribs 3 zinc 99;stain s deep 90 stuff 4;out week*10+water;water 3;");
        x.weeks(2);
        Check.due("week and water", x.stain(0, 0), 90 - 3 * 3 - 3 * 13);
        x.pour(5);
        Check.due("other water", x.strokes(0, 0, 1), 42 - 25);
        x = Check.chapel("board b ribs 2 zinc 3;stain s deep 9 stuff 4;");
        x.sermon(0, 0, 2);
        Check.due("without out", x.stain(0, 0), 7);
        Check.due("without wear", x.board(0, 1), 1);
    }

    private static void wordsInSaved() {
        // By zinc and depth behind the sermon; came, sin, ear, ribs, stuff, water, week.
        String things = "board b ribs 2 zinc 9;stain s deep 20 stuff 4;hearer h sin 3 ear 8;out 6;wear 2;water 11;saved ";
        String[] tests = {"zinc=5", "deep=8", "came=12", "sin=3", "ear=8", "ribs=2", "stuff=4", "water=11", "week=0"};
        for (String test : tests) {
            ZincSermon x = Check.chapel(things + test + ";");
            x.weeks(1);
            Check.due("saved " + test, x.hearer(0, 2), 1);
            x = Check.chapel(things + "not " + test + ";");
            x.weeks(1);
            Check.due("saved not " + test, x.hearer(0, 2), 0);
        }
        ZincSermon x = Check.chapel("board b ribs 2 zinc 9;stain s deep 20 stuff 4;hearer h sin 3 ear 8;");
        x.weeks(1);
        Check.due("without saved", x.hearer(0, 2), 0);
    }

    private static void wordsInSlide() {
        // Saved in week 0; in week 1 the words are of that week's sermon, in week 2 there is none.
        String things = "board b ribs 2 zinc 9;stain s deep 13 stuff 4;hearer h sin 3 ear 8;out 4;wear 2;water 11;saved all;slide ";
        String[] second = {"zinc=1 and week=1", "deep=0 and week=1", "came=5 and ribs=2", "stuff=4 and water=11 and week=1",
            "sin=3 and ear=8 and week=1", "all"};
        for (String test : second) {
            ZincSermon x = Check.chapel(things + test + ";");
            Check.due("slide " + test, x.saved(1), 1);
            Check.due("slide " + test, x.saved(2), 0);
        }
        String[] third = {"ribs=0", "stuff=0", "came=0", "zinc=0", "deep+ribs=0", "week=2"};
        for (String test : third) {
            ZincSermon x = Check.chapel(things + test + " and week>0;");
            Check.due("slide " + test, x.saved(2), 1);
            Check.due("slide " + test, x.saved(3), 0);
        }
        ZincSermon x = Check.chapel("board b ribs 2 zinc 9;stain s deep 13 stuff 4;hearer h sin 3 ear 8;saved all;");
        Check.due("without slide", x.saved(40), 1);
    }

    private static void wordsInPicks() {
        String things = "board a ribs 2 zinc 50;board b ribs 7 zinc 20;board c ribs 4 zinc 50;"
                + "stain s deep 30 stuff 4;stain t deep 60 stuff 1;water 9;picks ";
        picks(things + "0;", 0);
        picks(things + "ribs;", 1);
        picks(things + "zinc;", 0);
        picks(things + "0-zinc;", 1);
        picks(things + "zinc*10+ribs;", 2);
        picks(things + "if(deep=60,ribs,0-ribs);", 1);
        picks(things + "if(stuff=1,ribs,0-ribs);", 1);
        picks(things + "if(water=9,ribs,0-ribs);", 1);
        picks(things + "if(week=1,ribs,0-ribs);", 0);
        picks(things + "0-5;", 0);
        ZincSermon x = Check.chapel("board a ribs 2 zinc 50;board b ribs 7 zinc 20;stain s deep 30 stuff 4;");
        x.weeks(1);
        Check.due("without picks", x.kept(0, 1), 0);
    }

    private static void picks(String text, int want) {
        ZincSermon x = Check.chapel(text);
        x.weeks(1);
        Check.due("the BOARD by " + text, x.kept(0, 1), want);
        Check.due("the STAIN by " + text, x.kept(0, 2), 1);
    }
}
