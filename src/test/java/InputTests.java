/** The input buffer and the errors of a text: promises 1 to 6. */
final class InputTests {
  private InputTests() {}

  static void promise1NewObjectHasTheRecipeOfTheDocument() {
    RecipeScheduler x = Kit.fresh();
    Kit.due("a new object", Kit.state(x), Kit.state(Kit.loaded(Kit.DEFAULT)));
    Kit.due("names", Kit.name(x, 0) + Kit.name(x, 1) + Kit.name(x, 2) + Kit.name(x, 3)
        + Kit.name(x, 4), "cutboilfrymixrest");
    Kit.due("cooks()", x.cooks(), 1);
    Kit.due("minutesToFinish()", x.minutesToFinish(), 17);
    // The hold limit 2 and the taste range 4 to 9 show in what they allow.
    Kit.due("minutesToBurn(2)", x.minutesToBurn(2), 9);
    x.pass(17);
    Kit.due("whyNotServed() at taste 7", x.whyNotServed(), 0);
    x.addSalt(-4);
    Kit.due("whyNotServed() at taste 3", x.whyNotServed(), 4);
    x.addSalt(1);
    Kit.due("whyNotServed() at taste 4", x.whyNotServed(), 0);
    x.addSalt(5);
    Kit.due("whyNotServed() at taste 9", x.whyNotServed(), 0);
    x.addSalt(1);
    Kit.due("whyNotServed() at taste 10", x.whyNotServed(), 5);
  }

  static void promise1NewObjectHasNothingSavedAndAnEmptyBuffer() {
    RecipeScheduler x = Kit.fresh();
    Kit.throwsJust(Kit.ARGUMENT, "truncate(1)", () -> x.truncate(1));
    Kit.due("truncate(0)", x.truncate(0), 0);
    Kit.throwsJust(Kit.STATE, "restore(0)", () -> x.restore(0));
    Kit.throwsJust(Kit.STATE, "restore(1)", () -> x.restore(1));
    Kit.throwsJust(Kit.STATE, "undo()", x::undo);
    Kit.throwsJust(Kit.BOUNDS, "outputByte(0)", () -> x.outputByte(0));
  }

  static void promise2AppendPutsTheMostSignificantByteFirst() {
    RecipeScheduler x = Kit.fresh();
    Kit.due("append", x.append(0x63757400, 0, 0, 0, 0), 20);
    Kit.due("truncate(3)", x.truncate(3), 3);
    Kit.due("findStep() of \"cut\"", x.findStep(), Kit.CUT);
    Kit.due("append", x.append(0x0a000000, 0, 0, 0, 0), 23);
  }

  static void promise2AppendTakesAllFiveArgumentsInOrder() {
    // "recipe 2 0 0 9;step ", "ab 3 4;             "
    RecipeScheduler x = Kit.fresh();
    x.append(0x72656369, 0x70652032, 0x20302030, 0x20393b73, 0x74657020);
    Kit.due("append", x.append(0x61622033, 0x20343b20, 0x20202020, 0x20202020, 0x20202020), 40);
    Kit.due("load()", x.load(), 1);
    Kit.due("state", Kit.state(x), Kit.state(Kit.loaded("recipe 2 0 0 9;step ab 3 4;")));
  }

  static void promise2AppendKeepsBytesAbove127() {
    RecipeScheduler x = Kit.fresh();
    x.append(0x726563e9, 0x70650000, 0, 0, 0);
    Kit.throwsJust(Kit.ARGUMENT, "load()", x::load);
    Kit.due("errorPosition()", x.errorPosition(), 0);
    x.append(0x20208080, 0xffffffff, -1, -1, -1);
    Kit.throwsJust(Kit.ARGUMENT, "load()", x::load);
    Kit.due("errorPosition()", x.errorPosition(), 2);
  }

  static void promise2AppendUpTo700() {
    RecipeScheduler x = Kit.fresh();
    for (int i = 1; i <= 35; i++) {
      Kit.due("append", x.append(0, 0, 0, 0, 0), i * 20);
    }
    Kit.throwsJust(Kit.STATE, "append at 700", () -> x.append(1, 2, 3, 4, 5));
    x.truncate(681);
    Kit.throwsJust(Kit.STATE, "append at 681", () -> x.append(1, 2, 3, 4, 5));
    x.truncate(680);
    Kit.due("append at 680", x.append(1, 2, 3, 4, 5), 700);
  }

  static void promise3Truncate() {
    RecipeScheduler x = Kit.fresh();
    Kit.feed(x, "boiled");
    Kit.due("truncate(6)", x.truncate(6), 6);
    Kit.throwsJust(Kit.ARGUMENT, "truncate(7)", () -> x.truncate(7));
    Kit.throwsJust(Kit.ARGUMENT, "truncate(-1)", () -> x.truncate(-1));
    Kit.throwsJust(Kit.ARGUMENT, "truncate(min)", () -> x.truncate(Integer.MIN_VALUE));
    Kit.throwsJust(Kit.ARGUMENT, "truncate(max)", () -> x.truncate(Integer.MAX_VALUE));
    Kit.due("truncate(4)", x.truncate(4), 4);
    Kit.due("findStep() of \"boil\"", x.findStep(), Kit.BOIL);
    Kit.due("truncate(0)", x.truncate(0), 0);
    Kit.throwsJust(Kit.ELEMENT, "findStep()", x::findStep);
  }

  static void promise4LoadReplacesTheRecipeAndForgetsTheRest() {
    RecipeScheduler x = Kit.fresh();
    x.pass(10);
    x.stop(2);
    x.addSalt(3);
    x.save(0);
    x.save(1);
    Kit.due("writeSummary()", Kit.summary(x), "cut= boil= fry. mix. rest.");
    Kit.due("load()", Kit.load(x, "recipe 3 0 1 8;step ab 7 2 hot;"), 1);
    Kit.due("state", Kit.state(x), Kit.state(Kit.loaded("recipe 3 0 1 8;step ab 7 2 hot;")));
    Kit.due("outputByte(0), which stays", x.outputByte(0), 'c');
    Kit.throwsJust(Kit.STATE, "undo()", x::undo);
    Kit.throwsJust(Kit.STATE, "restore(0)", () -> x.restore(0));
    Kit.throwsJust(Kit.STATE, "restore(1)", () -> x.restore(1));
    Kit.due("truncate(0)", Kit.length(x), 0);
    Kit.throwsJust(Kit.BOUNDS, "status(1)", () -> x.status(1));
    Kit.throwsJust(Kit.BOUNDS, "panCapacity(0)", () -> x.panCapacity(0));
  }

  static void promise4LoadAfterServing() {
    RecipeScheduler x = Kit.fresh();
    x.pass(17);
    x.serve();
    Kit.load(x, Kit.DEFAULT);
    Kit.due("state", Kit.state(x), Kit.state(Kit.fresh()));
    Kit.due("whyNotServed()", x.whyNotServed(), 3);
    Kit.due("pass(17)", x.pass(17), 6);
  }

  static void promise4LoadWithAnErrorChangesNothingElse() {
    RecipeScheduler x = Kit.fresh();
    x.pass(5);
    x.save(1);
    x.addSalt(2);
    Kit.feed(x, "recipe 4 9 1 2;pan big 1;step one 9 9 in big hot alone;"
        + "step two 1 1 after one one;");
    String before = Kit.state(x);
    Kit.throwsJust(Kit.ARGUMENT, "load()", x::load);
    Kit.due("state", Kit.state(x), before);
    Kit.due("errorCode()", x.errorCode(), 4);
    Kit.due("buffer", Kit.length(x), 0);
    Kit.due("undo()", x.undo(), 1);
    Kit.due("restore(1)", x.restore(1), 5);
    // A second faulty text meets what the first one left behind.
    Kit.feed(x, "recipe");
    Kit.throwsJust(Kit.ARGUMENT, "load()", x::load);
    Kit.due("load()", Kit.load(x, Kit.DEFAULT), 5);
    Kit.due("state", Kit.state(x), Kit.state(Kit.fresh()));
  }

  static void promise4AFaultyTextAfterAGoodOneChangesNothing() {
    RecipeScheduler x = Kit.loaded(RecipeTests.LARGE);
    Kit.feed(x, "recipe 1 1 1 1;pan a 1;step x 1 1 in a hot;step y 1 1 after x;step z 1 1");
    String before = Kit.state(x);
    Kit.throwsJust(Kit.ARGUMENT, "load()", x::load);
    Kit.due("state", Kit.state(x), before);
  }

  static void promise4NothingOfEarlierRecipesIsLeft() {
    String[] setups = {RecipeTests.LARGE, "recipe 4 9 50 99;pan p 1;pan q 1;pan r 1;pan s 1;"
        + "step a 60 9 in s hot alone;step b 60 9 in r after a;step c 60 9 in q after b a;"
        + "step d 60 9 in p;step e 60 9 in p;step f 60 9 hot alone after e;", Kit.DEFAULT,
        RecipeTests.BURNING, "recipe 1 1 3 5;pan p 1;step a 5 1;step b 5 1 alone;",
        "recipe 2 1 3 5;step a 5 1;"};
    for (String first : setups) {
      for (String second : setups) {
        // Whatever an object keeps two of for its recipes has held the first one twice by then.
        RecipeScheduler x = Kit.loaded(first);
        Kit.load(x, first);
        Kit.load(x, second);
        RecipeScheduler y = Kit.loaded(second);
        Kit.due("state", Kit.state(x), Kit.state(y));
        x.pass(8);
        y.pass(8);
        Kit.due("state", Kit.state(x), Kit.state(y));
        Kit.due("meanDuration()", x.meanDuration(), y.meanDuration());
      }
    }
  }

  static void promise4BurntAndAgedStepsWaitAgain() {
    RecipeScheduler x = Kit.loaded(RecipeTests.BURNING);
    x.pass(7);
    Kit.load(x, RecipeTests.BURNING);
    Kit.due("status(0)", x.status(0), RecipeScheduler.WAITING);
    Kit.load(x, Kit.DEFAULT);
    x.pass(8);
    Kit.due("age(FRY)", x.age(Kit.FRY), 2);
    Kit.load(x, Kit.DEFAULT);
    Kit.due("age(FRY)", x.age(Kit.FRY), 0);
    x.pass(7);
    Kit.due("age(FRY)", x.age(Kit.FRY), 1);
  }

  static void promise5And6BothTellTheLatestText() {
    RecipeScheduler x = Kit.fresh();
    Kit.due("errorCode()", x.errorCode(), 0);
    Kit.due("errorPosition()", x.errorPosition(), RecipeScheduler.NONE);
    Kit.feed(x, "recipe 1 2 4 3;");
    Kit.throwsJust(Kit.ARGUMENT, "load()", x::load);
    Kit.due("errorCode()", x.errorCode(), 2);
    Kit.due("errorPosition()", x.errorPosition(), 13);
    x.pass(1);
    x.undo();
    Kit.due("errorCode() after undo()", x.errorCode(), 2);
    Kit.due("script", Kit.script(x, " "), 0);
    Kit.due("errorCode()", x.errorCode(), 0);
    Kit.due("errorPosition()", x.errorPosition(), RecipeScheduler.NONE);
    Kit.feed(x, "pass 1;stop nobody;");
    Kit.throwsJust(Kit.ARGUMENT, "runScript()", x::runScript);
    Kit.due("errorCode()", x.errorCode(), 3);
    Kit.due("errorPosition()", x.errorPosition(), 12);
    Kit.load(x, Kit.DEFAULT);
    Kit.due("errorCode()", x.errorCode(), 0);
    Kit.due("errorPosition()", x.errorPosition(), RecipeScheduler.NONE);
  }

  static void promise6PositionOutlivesTheText() {
    RecipeScheduler x = Kit.fresh();
    Kit.feed(x, "recipe 1 1 1 1;step a 1 1 in x;");
    Kit.throwsJust(Kit.ARGUMENT, "load()", x::load);
    Kit.feed(x, "and another text");
    Kit.due("errorCode()", x.errorCode(), 3);
    Kit.due("errorPosition()", x.errorPosition(), 29);
  }
}
