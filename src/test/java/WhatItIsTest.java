/** The document's section 'What it is', sentence by sentence. */
public final class WhatItIsTest {
    public static void main(String[] args) {
        Section whatItIs = new Section("promises 1 to 11 by what it is");
        whatItIs.test("An object is used for at most 512 calls",
            "call 512 answers as all before it", WhatItIsTest::lastCallAnswers);
        whatItIs.test("An object is used for at most 512 calls", "all of them write", WhatItIsTest::allCallsWrite);
        whatItIs.test("An object is used for at most 512 calls",
            "all of them are refused", WhatItIsTest::allCallsAreRefused);
        whatItIs.test("worlds of classes, each defined anew",
            "eight worlds, each with all its classes", WhatItIsTest::eachDefinedAnew);
        whatItIs.end();
    }

    private static void lastCallAnswers(Due due) {
        Run x = Run.inWorld(due);
        for (int call = 2; call <= 511; call++) {
            x.act(0, 1).is(10 + call - 1);
        }
        x.act(1, 0).is(520);
    }

    private static void allCallsWrite(Due due) {
        Run x = Run.inWorld(due);
        for (int call = 2; call <= 511; call++) {
            x.keep(call % 6, 2).is(SuiteLoader.DONE);
        }
        x.count(2).is(6 + 4 * 510);
    }

    private static void allCallsAreRefused(Due due) {
        Run x = new Run(due);
        for (int call = 1; call <= 511; call++) {
            x.enter(0).is(SuiteLoader.REFUSED);
        }
        x.begin(false).is(0);
    }

    private static void eachDefinedAnew(Due due) {
        Run x = new Run(due);
        for (int w = 0; w < 8; w++) {
            x.begin(false).is(w);
            for (int k = 0; k < 17; k++) {
                x.find(k, true).is(k == 8 ? SuiteLoader.FAILED : k == 9 ? SuiteLoader.GONE : SuiteLoader.DONE);
            }
            x.count(2).is(21);
        }
    }
}
