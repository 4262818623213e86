/** How far the steps are and why not farther: promises 30 to 41. */
final class ProgressTests {
  private static final int NONE = RecipeScheduler.NONE;

  private ProgressTests() {}

  private static void statuses(RecipeScheduler x, int... due) {
    for (int step = 0; step < due.length; step++) {
      Kit.due("status " + step + " in minute " + x.minute(), x.status(step), due[step]);
    }
  }

  static void promise30Status() {
    RecipeScheduler x = Kit.fresh();
    statuses(x, 0, 0, 0, 0, 0);
    x.pass(1);
    statuses(x, 1, 0, 0, 0, 0);
    x.pass(2);
    statuses(x, 1, 0, 0, 0, 0);
    x.pass(1);
    statuses(x, 2, 1, 1, 0, 0);
    x.pass(2);
    statuses(x, 2, 1, 2, 0, 0);
    x.pass(3);
    statuses(x, 2, 2, 1, 0, 0);
    x.pass(2);
    statuses(x, 2, 2, 2, 1, 0);
    x.pass(2);
    statuses(x, 2, 2, 2, 2, 1);
    x.pass(4);
    statuses(x, 2, 2, 2, 2, 2);
    Kit.load(x, RecipeTests.BURNING);
    x.pass(7);
    statuses(x, 3, 1);
    x.pass(4);
    statuses(x, 1, 2);
  }

  static void promise31Remaining() {
    RecipeScheduler x = Kit.fresh();
    Kit.due("remaining of a waiting step", x.remaining(Kit.CUT), 0);
    x.pass(1);
    Kit.due("remaining of a step just started", x.remaining(Kit.CUT), 3);
    x.pass(2);
    Kit.due("remaining", x.remaining(Kit.CUT), 1);
    x.pass(1);
    Kit.due("remaining of a done step", x.remaining(Kit.CUT), 0);
    x.stop(Kit.BOIL);
    Kit.due("remaining of a stopped step", x.remaining(Kit.BOIL), 0);
  }

  static void promise32Age() {
    RecipeScheduler x = Kit.fresh();
    x.pass(6);
    Kit.due("age of a step just done", x.age(Kit.FRY), 0);
    x.pass(2);
    Kit.due("age", x.age(Kit.FRY), 2);
    Kit.due("age of a step that is not hot", x.age(Kit.CUT), 0);
    x.pass(1);
    Kit.due("age of a step started again", x.age(Kit.FRY), 0);
    x.pass(2);
    Kit.due("age of a step done again and taken up", x.age(Kit.FRY), 0);
    x.pass(100);
    Kit.due("age of a step that is taken up", x.age(Kit.FRY), 0);
    Kit.load(x, RecipeTests.BURNING);
    x.pass(7);
    Kit.due("age of a burnt step", x.age(0), 0);
    Kit.load(x, "recipe 1 5 0 9;step a 1 1 hot;step b 9 1 after a;");
    x.pass(1);
    x.pass(1);
    x.stop(1);
    x.setCooks(1);
    Kit.due("age(0)", x.age(0), 0);
    x.pass(1);
    Kit.due("age in the minute in which b starts again", x.age(0), 1);
    x.pass(3);
    Kit.due("age, which stays", x.age(0), 1);
  }

  static void promise33StartsOf() {
    RecipeScheduler x = Kit.fresh();
    Kit.due("startsOf(FRY)", x.startsOf(Kit.FRY), 0);
    x.pass(4);
    Kit.due("startsOf(FRY)", x.startsOf(Kit.FRY), 1);
    x.pass(5);
    Kit.due("startsOf(FRY) after burning", x.startsOf(Kit.FRY), 2);
    x.stop(Kit.FRY);
    Kit.due("startsOf(FRY) after stop()", x.startsOf(Kit.FRY), 2);
    x.pass(1);
    Kit.due("startsOf(FRY)", x.startsOf(Kit.FRY), 3);
    Kit.due("startsOf(CUT)", x.startsOf(Kit.CUT), 1);
    Kit.load(x, Kit.DEFAULT);
    Kit.due("startsOf(FRY)", x.startsOf(Kit.FRY), 0);
  }

  static void promise34IsTakenUp() {
    RecipeScheduler x = Kit.fresh();
    x.pass(3);
    Kit.due("a running step", x.isTakenUp(Kit.CUT), false);
    x.pass(1);
    Kit.due("a done step, its successor running", x.isTakenUp(Kit.CUT), true);
    x.pass(2);
    Kit.due("a done step, its successor waiting", x.isTakenUp(Kit.FRY), false);
    x.pass(7);
    Kit.due("a done step, its successor done", x.isTakenUp(Kit.FRY), true);
    x.pass(4);
    Kit.due("a done step without successors", x.isTakenUp(Kit.REST), false);
    x.redo(Kit.REST);
    x.redo(Kit.MIX);
    Kit.due("cut, boil being done", x.isTakenUp(Kit.CUT), true);
    Kit.due("boil, mix waiting", x.isTakenUp(Kit.BOIL), false);
  }

  static void promise35ReadyStep() {
    RecipeScheduler x = Kit.fresh();
    Kit.due("readyStep(0)", x.readyStep(0), Kit.CUT);
    Kit.due("readyStep(1)", x.readyStep(1), Kit.FRY);
    for (int index : new int[] {-1, 2, 14, Integer.MAX_VALUE, Integer.MIN_VALUE}) {
      Kit.due("readyStep " + index, x.readyStep(index), NONE);
    }
    x.pass(1);
    Kit.due("readyStep(0), cut running", x.readyStep(0), Kit.FRY);
    x.pass(16);
    Kit.due("readyStep(0), all done", x.readyStep(0), NONE);
    Kit.load(x, RecipeTests.BURNING);
    x.pass(7);
    Kit.due("readyStep(0), burnt", x.readyStep(0), 0);
  }

  static void promise35ReadyStepByPathLengthThenNumber() {
    RecipeScheduler x = Kit.loaded("recipe 1 1 0 9;step a 3 1;step b 5 1;step c 5 1;step d 1 1;"
        + "step e 4 1 after d;step f 6 1 alone;step g 3 1;");
    int[] due = {5, 1, 2, 3, 0, 6, NONE};
    for (int i = 0; i < due.length; i++) {
      Kit.due("readyStep " + i, x.readyStep(i), due[i]);
    }
    x.setDuration(6, 60);
    Kit.due("readyStep(0)", x.readyStep(0), 6);
    x.undo();
    Kit.due("readyStep(0)", x.readyStep(0), 5);
  }

  static void promise36WhyNotRunning() {
    RecipeScheduler x = Kit.fresh();
    Kit.due("nothing in the way", x.whyNotRunning(Kit.CUT), 5);
    Kit.due("a predecessor", x.whyNotRunning(Kit.BOIL), 2);
    x.pass(1);
    Kit.due("running", x.whyNotRunning(Kit.CUT), 0);
    Kit.due("no cook", x.whyNotRunning(Kit.FRY), 4);
    x.pass(3);
    Kit.due("done", x.whyNotRunning(Kit.CUT), 1);
    x.stop(Kit.BOIL);
    Kit.due("unattended, no cook is free", x.whyNotRunning(Kit.BOIL), 5);
    Kit.load(x, "recipe 3 9 0 9;pan p 1;step a 5 1 in p;step b 4 1 in p;step c 3 1 in p after b;");
    x.pass(1);
    Kit.due("no pan, as b is on the longer path", x.whyNotRunning(0), 3);
    Kit.due("blockingStep(0)", x.blockingStep(0), 1);
    Kit.due("a predecessor ahead of a pan", x.whyNotRunning(2), 2);
  }

  static void promise36APanComesAheadOfACook() {
    RecipeScheduler x = Kit.loaded("recipe 1 9 0 9;pan p 1;step a 9 1 in p;step b 4 1 in p;");
    x.pass(1);
    Kit.due("neither a pan nor a cook", x.whyNotRunning(1), 3);
    Kit.load(x, RecipeTests.BURNING);
    x.pass(7);
    Kit.due("a burnt step without a cook", x.whyNotRunning(0), 4);
    x.stop(1);
    Kit.due("a burnt step", x.whyNotRunning(0), 5);
  }

  static void promise36MoreRunningStepsThanCooks() {
    RecipeScheduler x = Kit.loaded("recipe 2 9 0 9;step a 9 1;step b 9 1;step c 9 1;");
    x.pass(1);
    x.setCooks(1);
    Kit.due("two run with one cook", x.whyNotRunning(2), 4);
    x.stop(0);
    Kit.due("one runs with one cook", x.whyNotRunning(2), 4);
    x.stop(1);
    Kit.due("none runs", x.whyNotRunning(2), 5);
  }

  static void promise37BlockingStep() {
    RecipeScheduler x = Kit.fresh();
    Kit.due("nothing in the way", x.blockingStep(Kit.CUT), NONE);
    Kit.due("the first predecessor", x.blockingStep(Kit.MIX), Kit.BOIL);
    x.pass(1);
    Kit.due("running", x.blockingStep(Kit.CUT), NONE);
    Kit.due("the cook's step", x.blockingStep(Kit.FRY), Kit.CUT);
    x.pass(8);
    Kit.due("the second predecessor", x.blockingStep(Kit.MIX), Kit.FRY);
    Kit.due("done", x.blockingStep(Kit.CUT), NONE);
  }

  static void promise37PredecessorsInTheOrderOfTheText() {
    RecipeScheduler x = Kit.loaded(RecipeTests.LARGE);
    Kit.due("blockingStep(4)", x.blockingStep(4), 3);
    Kit.due("blockingStep(3)", x.blockingStep(3), 2);
  }

  static void promise37TheLowestStepWithAPan() {
    RecipeScheduler x = Kit.loaded("recipe 4 9 0 9;pan p 2;step z 30 1;step a 2 1 in p;"
        + "step b 9 1 in p;step c 1 1 in p;step d 3 1 after a;step e 9 1 alone after z;");
    x.pass(1);
    Kit.due("running steps have the pans", Kit.summary(x), "z30 a2 b9 c. d. e.");
    Kit.due("blockingStep(3)", x.blockingStep(3), 1);
    x.setCooks(1);
    x.pass(2);
    Kit.due("a is held for d", Kit.summary(x), "z28 a= b7 c. d. e.");
    Kit.due("blockingStep(3)", x.blockingStep(3), 1);
    Kit.due("blockingStep(4)", x.blockingStep(4), 0);
    x.setCooks(4);
    x.pass(1);
    Kit.due("d runs", Kit.summary(x), "z27 a= b6 c1 d3 e.");
    Kit.due("blockingStep(5)", x.blockingStep(5), 0);
  }

  static void promise37TheLowestStepWithACook() {
    RecipeScheduler x = Kit.loaded(
        "recipe 2 9 0 9;step a 60 1 alone;step b 9 1;step c 9 1;step d 1 1;");
    x.pass(1);
    Kit.due("blockingStep(3)", x.blockingStep(3), 1);
    x.stop(1);
    Kit.due("blockingStep(3)", x.blockingStep(3), NONE);
    x.setCooks(1);
    Kit.due("blockingStep(3)", x.blockingStep(3), 2);
  }

  static void promise38RootBlocker() {
    RecipeScheduler x = Kit.fresh();
    Kit.due("rootBlocker(REST)", x.rootBlocker(Kit.REST), Kit.CUT);
    Kit.due("rootBlocker(BOIL)", x.rootBlocker(Kit.BOIL), Kit.CUT);
    Kit.due("rootBlocker(CUT)", x.rootBlocker(Kit.CUT), NONE);
    x.pass(1);
    Kit.due("rootBlocker(FRY), which lacks a cook", x.rootBlocker(Kit.FRY), NONE);
    Kit.due("rootBlocker(REST), cut running", x.rootBlocker(Kit.REST), Kit.CUT);
    x.pass(3);
    Kit.due("rootBlocker(REST)", x.rootBlocker(Kit.REST), Kit.BOIL);
    Kit.due("rootBlocker(CUT), done", x.rootBlocker(Kit.CUT), NONE);
    x.pass(5);
    Kit.due("rootBlocker(REST)", x.rootBlocker(Kit.REST), Kit.FRY);
    x.pass(2);
    Kit.due("rootBlocker(REST)", x.rootBlocker(Kit.REST), Kit.MIX);
    x.pass(6);
    Kit.due("rootBlocker(REST)", x.rootBlocker(Kit.REST), NONE);
    Kit.load(x, RecipeTests.LARGE);
    Kit.due("rootBlocker(4)", x.rootBlocker(4), 0);
  }

  static void promise38TheChainEndsWhereAnotherReasonBegins() {
    RecipeScheduler x = Kit.loaded("recipe 1 9 0 9;step a 9 1;step b 1 1;step c 1 1 after b;");
    x.pass(1);
    Kit.due("b lacks a cook", x.whyNotRunning(1), 4);
    Kit.due("rootBlocker(2)", x.rootBlocker(2), 1);
  }

  static void promise39WhyNotServed() {
    RecipeScheduler x = Kit.fresh();
    Kit.due("not done", x.whyNotServed(), 3);
    x.pass(17);
    Kit.due("taste 7", x.whyNotServed(), 0);
    x.addSalt(-4);
    Kit.due("taste 3", x.whyNotServed(), 4);
    x.addSalt(6);
    Kit.due("taste 9", x.whyNotServed(), 0);
    x.addSalt(1);
    Kit.due("taste 10", x.whyNotServed(), 5);
    x.addSalt(-6);
    Kit.due("taste 4", x.whyNotServed(), 0);
    x.serve();
    Kit.due("served", x.whyNotServed(), 1);
    x.undo();
    Kit.due("not served", x.whyNotServed(), 0);
    Kit.load(x, RecipeTests.BURNING);
    x.pass(7);
    Kit.due("burnt ahead of not done", x.whyNotServed(), 2);
    x.pass(4);
    Kit.due("started again", x.whyNotServed(), 3);
    x.addSalt(-9);
    Kit.due("not done ahead of the taste", x.whyNotServed(), 3);
  }

  static void promise40CriticalStep() {
    RecipeScheduler x = Kit.fresh();
    int[] due = {Kit.CUT, Kit.BOIL, Kit.MIX, Kit.REST, NONE, NONE};
    for (int i = 0; i < due.length; i++) {
      Kit.due("criticalStep " + i, x.criticalStep(i), due[i]);
    }
    for (int index : new int[] {-1, 13, 14, Integer.MAX_VALUE, Integer.MIN_VALUE}) {
      Kit.due("criticalStep " + index, x.criticalStep(index), NONE);
    }
    x.setDuration(Kit.FRY, 60);
    Kit.due("criticalStep(0)", x.criticalStep(0), Kit.FRY);
    Kit.due("criticalStep(1)", x.criticalStep(1), Kit.MIX);
    x.pass(30);
    Kit.due("criticalStep(0), whatever is done", x.criticalStep(0), Kit.FRY);
  }

  static void promise40TheLowestNumberWinsATie() {
    RecipeScheduler x = Kit.loaded("recipe 1 1 0 9;step a 3 1;step b 3 1;step c 2 1 after b;"
        + "step d 4 1 after a b;step e 4 1 after a;step f 2 1 after c;");
    Kit.due("criticalStep(0)", x.criticalStep(0), 0);
    Kit.due("criticalStep(1)", x.criticalStep(1), 3);
    Kit.due("criticalStep(2)", x.criticalStep(2), NONE);
    x.setDuration(1, 4);
    Kit.due("criticalStep(0)", x.criticalStep(0), 1);
    Kit.due("criticalStep(1), c with f as long as d", x.criticalStep(1), 2);
    Kit.due("criticalStep(2)", x.criticalStep(2), 5);
  }

  static void promise41Slack() {
    RecipeScheduler x = Kit.fresh();
    int[] due = {0, 0, 6, 0, 0};
    for (int step = 0; step < due.length; step++) {
      Kit.due("slack " + step, x.slack(step), due[step]);
    }
    Kit.load(x, RecipeTests.LARGE);
    int[] large = {21, 21, 36, 21, 21, 0};
    for (int step = 0; step < large.length; step++) {
      Kit.due("slack " + step, x.slack(step), large[step]);
    }
    x.setDuration(5, 1);
    x.setDuration(2, 25);
    int[] then = {0, 5, 0, 0, 0, 43};
    for (int step = 0; step < then.length; step++) {
      Kit.due("slack " + step, x.slack(step), then[step]);
    }
    x.undo();
    x.undo();
    for (int step = 0; step < large.length; step++) {
      Kit.due("slack " + step, x.slack(step), large[step]);
    }
  }
}
