/** What single RULES come to (terms, part 1; promises 10 and 14). */
public final class RunsTest {
    public static void main(String[] args) {
        Check.part("10 what a RUN comes to");
        comesTo("+01", 7);
        comesTo("-01", -7);
        comesTo("=10-01", 3);
        comesTo("=10*01", 70);
        comesTo("*01", 0);
        comesTo("=30/01", 4);
        comesTo("-01*03/01", 2);
        comesTo("=20/03", -10);
        comesTo("=07/03", -3);
        comesTo("-01/03", 3);
        comesTo("-01/02", -1);
        comesTo("=10&01", 7);
        comesTo("=10=99", 99);
        comesTo("=30%07", 2);
        comesTo("=30*03%07", -4);
        comesTo("+04", 1000000);
        comesTo("-04", -1000000);
        comesTo("=50!50", 50);
        comesTo("=50!51", 50);
        fails("=50!49", Check.TOLD, 1);
        comesTo("-01!00", -7);
        fails("=01!00", Check.TOLD, 1);
        fails("=05/00", Check.NOUGHT, 1);
        fails("=05%00", Check.NOUGHT, 1);
        fails("%00", Check.NOUGHT, 0);
        fails("+04+06", Check.OVER, 1);
        fails("-04-06", Check.OVER, 1);
        fails("+04*04-04", Check.OVER, 1);
        fails("+04+06-06", Check.OVER, 1);
        fails("=05+05", Check.NEEDS, 1);
        fails("=05*05", Check.NEEDS, 1);
        fails("/05", Check.NEEDS, 0);
        passes();
        Check.end();
    }

    /** "? n" and "^ n" pass STEPS over. */
    private static void passes() {
        comesTo("?01=05=06", 6);
        comesTo("?01=05", 0);
        comesTo("?02=05=06", 0);
        comesTo("?99=05", 0);
        comesTo("?00=05", 5);
        comesTo("=01?01=05", 5);
        comesTo("-01?01=05", 5);
        comesTo("-01^01=05", -7);
        comesTo("-01^01=05+01", 0);
        comesTo("^01=05", 5);
        comesTo("=01^01=05", 5);
        comesTo("-01^00=05", 5);
        comesTo("-01^99=05", -7);
        comesTo("?01?01=05", 5);
        comesTo("?02=05+05=07", 7);
        fails("?01=05=06/00", Check.NOUGHT, 3);
    }

    /** INPUTS: 0 is 0, 1 is 7, 2 is 5, 3 is -2, 4 is 1000000, 5 has none, 6 is 1. */
    private static BuildEngine built(String rule) {
        BuildEngine x = new BuildEngine();
        x.give(0, 0);
        x.give(1, 7);
        x.give(2, 5);
        x.give(3, -2);
        x.give(4, 1000000);
        x.give(6, 1);
        Check.ruled(x, 8, rule);
        Check.due("build(8) of " + rule, x.build(8), 1);
        return x;
    }

    private static void comesTo(String rule, int content) {
        BuildEngine x = built(rule);
        Check.due(rule, x.result(8), content);
        Check.due("causes(8) of " + rule, x.causes(8), Check.NOT_SO);
    }

    private static void fails(String rule, int sort, int step) {
        BuildEngine x = built(rule);
        Check.due(rule, x.result(8), Check.NO_RESULT + sort);
        Check.due("KEY of " + rule, x.failure(8, 0, 0), 8);
        Check.due("SORT of " + rule, x.failure(8, 0, 1), sort);
        Check.due("STEP of " + rule, x.failure(8, 0, 2), step);
        Check.due("CAUSES of " + rule, x.causes(8), sort == Check.NEEDS ? 1 : 0);
        Check.due("ROOT of " + rule, x.root(8), sort == Check.NEEDS ? 5 : 8);
    }
}
