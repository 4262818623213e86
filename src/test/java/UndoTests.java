/** Undo, saved states and the output text: promises 60 to 64. */
final class UndoTests {
  private UndoTests() {}

  static void promise60EveryChangeIsUndone() {
    Kit.Act[] changes = {y -> y.pass(1), y -> y.addSalt(1), y -> y.redo(Kit.REST),
        y -> y.setCooks(3), y -> y.setDuration(2, 9), RecipeScheduler::serve,
        RecipeScheduler::runScript};
    for (int i = 0; i < changes.length; i++) {
      RecipeScheduler x = Kit.FINISHED.then(y -> y.save(0), y -> y.restore(0)).made();
      String before = Kit.state(x);
      changes[i].on(x);
      Kit.due("undo() of change " + i, x.undo(), 0);
      Kit.due("state after undo() of change " + i, Kit.state(x), before);
      Kit.throwsJust(Kit.STATE, "undo()", x::undo);
    }
    RecipeScheduler x = Kit.fresh();
    x.pass(2);
    String before = Kit.state(x);
    x.stop(0);
    Kit.due("undo() of stop()", x.undo(), 1);
    Kit.due("state", Kit.state(x), before);
  }

  static void promise60TheLatestSix() {
    RecipeScheduler x = Kit.fresh();
    for (int i = 1; i <= 9; i++) {
      x.addSalt(i);
    }
    int salt = 45;
    for (int left = 5; left >= 0; left--) {
      Kit.due("undo()", x.undo(), left);
      salt -= left + 4;
      Kit.due("salt()", x.salt(), salt);
    }
    Kit.throwsJust(Kit.STATE, "undo() of the seventh", x::undo);
    Kit.due("salt()", x.salt(), 6);
  }

  static void promise60AnUndoneChangeMakesRoom() {
    RecipeScheduler x = Kit.fresh();
    for (int i = 1; i <= 6; i++) {
      x.addSalt(1);
    }
    x.undo();
    x.undo();
    x.addSalt(7);
    Kit.due("undo()", x.undo(), 4);
    Kit.due("salt()", x.salt(), 4);
    for (int left = 3; left >= 0; left--) {
      Kit.due("undo()", x.undo(), left);
    }
    Kit.due("salt()", x.salt(), 0);
    Kit.throwsJust(Kit.STATE, "undo()", x::undo);
  }

  static void promise60WhatUndoLeavesAlone() {
    RecipeScheduler x = Kit.fresh();
    x.pass(4);
    x.save(0);
    Kit.feed(x, "pass;");
    Kit.throwsJust(Kit.ARGUMENT, "runScript()", x::runScript);
    Kit.feed(x, "boil");
    String summary = Kit.summary(x);
    Kit.due("undo()", x.undo(), 0);
    Kit.due("findStep()", x.findStep(), Kit.BOIL);
    Kit.due("errorCode()", x.errorCode(), 1);
    Kit.due("errorPosition()", x.errorPosition(), 4);
    for (int i = 0; i < summary.length(); i++) {
      Kit.due("outputByte " + i, x.outputByte(i), summary.charAt(i));
    }
    Kit.due("restore(0)", x.restore(0), 4);
  }

  static void promise60OnlyChangesCount() {
    RecipeScheduler x = Kit.fresh();
    x.pass(1);
    x.save(0);
    x.writeSummary();
    x.append(0, 0, 0, 0, 0);
    x.truncate(0);
    x.minutesToFinish();
    x.bottleneck();
    Kit.throwsJust(Kit.ARGUMENT, "pass(0)", () -> x.pass(0));
    Kit.throwsJust(Kit.STATE, "serve()", x::serve);
    Kit.due("undo()", x.undo(), 0);
    Kit.due("minute()", x.minute(), 0);
  }

  static void promise61Save() {
    RecipeScheduler x = Kit.fresh();
    Kit.due("save(0)", x.save(0), 0);
    x.pass(5);
    Kit.due("save(1)", x.save(1), 5);
    Kit.due("minute()", x.minute(), 5);
    x.pass(5);
    Kit.due("save(0) again", x.save(0), 10);
    x.pass(5);
    Kit.due("restore(1)", x.restore(1), 5);
    Kit.due("restore(0)", x.restore(0), 10);
    for (int slot : new int[] {-1, 2, Integer.MAX_VALUE, Integer.MIN_VALUE}) {
      Kit.throwsJust(Kit.BOUNDS, "save " + slot, () -> x.save(slot));
    }
  }

  static void promise61SaveKeepsTheUndoHistory() {
    RecipeScheduler x = Kit.fresh();
    x.pass(5);
    x.save(0);
    Kit.due("undo()", x.undo(), 0);
    Kit.due("restore(0)", x.restore(0), 5);
  }

  static void promise62Restore() {
    RecipeScheduler x = Kit.fresh();
    for (int slot : new int[] {-1, 2, Integer.MAX_VALUE, Integer.MIN_VALUE}) {
      Kit.throwsJust(Kit.BOUNDS, "restore " + slot, () -> x.restore(slot));
    }
    Kit.throwsJust(Kit.STATE, "restore(0)", () -> x.restore(0));
    x.pass(8);
    x.addSalt(-5);
    x.setDuration(1, 33);
    x.setCooks(3);
    x.save(1);
    Kit.throwsJust(Kit.STATE, "restore(0)", () -> x.restore(0));
    String before = Kit.state(x);
    x.pass(2);
    x.stop(Kit.FRY);
    x.addSalt(9);
    x.setDuration(1, 1);
    x.setCooks(1);
    Kit.due("restore(1)", x.restore(1), 8);
    Kit.due("state", Kit.state(x), before);
    Kit.throwsJust(Kit.STATE, "undo()", x::undo);
    x.pass(100);
    Kit.due("restore(1), which stays saved", x.restore(1), 8);
    Kit.due("state", Kit.state(x), before);
    x.pass(1);
    Kit.due("undo()", x.undo(), 0);
    Kit.due("minute()", x.minute(), 8);
  }

  static void promise62BurntStepsAreRestoredToo() {
    RecipeScheduler x = Kit.loaded(RecipeTests.BURNING);
    x.pass(7);
    x.save(0);
    x.pass(4);
    Kit.due("undo()", x.undo(), 1);
    Kit.due("status(0) after undo()", x.status(0), RecipeScheduler.BURNT);
    x.pass(4);
    Kit.due("restore(0)", x.restore(0), 7);
    Kit.due("status(0) after restore()", x.status(0), RecipeScheduler.BURNT);
    Kit.due("statusAfter(0, 0)", x.statusAfter(0, 0), RecipeScheduler.BURNT);
  }

  static void promise62RestoreLeavesTheRestAlone() {
    RecipeScheduler x = Kit.fresh();
    x.save(0);
    x.pass(17);
    x.serve();
    x.save(1);
    String summary = Kit.summary(x);
    Kit.feed(x, "serve");
    Kit.throwsJust(Kit.ARGUMENT, "runScript()", x::runScript);
    Kit.feed(x, "mix");
    Kit.due("restore(0)", x.restore(0), 0);
    Kit.due("whyNotServed()", x.whyNotServed(), 3);
    Kit.due("findStep()", x.findStep(), Kit.MIX);
    Kit.due("errorPosition()", x.errorPosition(), 5);
    Kit.due("outputByte(3)", x.outputByte(3), summary.charAt(3));
    Kit.due("restore(1)", x.restore(1), 17);
    Kit.due("whyNotServed()", x.whyNotServed(), 1);
  }

  static void promise63WriteSummary() {
    RecipeScheduler x = Kit.fresh();
    Kit.due("writeSummary()", x.writeSummary(), 26);
    Kit.due("summary", Kit.summary(x), "cut. boil. fry. mix. rest.");
    x.pass(1);
    x.setDuration(Kit.BOIL, 60);
    x.pass(3);
    Kit.due("writeSummary()", x.writeSummary(), 27);
    Kit.due("summary", Kit.summary(x), "cut= boil60 fry2 mix. rest.");
    x.pass(50);
    Kit.due("summary", Kit.summary(x), "cut= boil10 fry2 mix. rest.");
    x.pass(1);
    Kit.due("summary", Kit.summary(x), "cut= boil9 fry1 mix. rest.");
    Kit.load(x, RecipeTests.BURNING);
    x.pass(7);
    Kit.due("writeSummary()", x.writeSummary(), 5);
    Kit.due("summary", Kit.summary(x), "a* b4");
  }

  static void promise63TheLongestSummary() {
    StringBuilder text = new StringBuilder("recipe 4 0 0 99;");
    StringBuilder due = new StringBuilder();
    for (int i = 0; i < 14; i++) {
      String name = "abcde" + (char) ('a' + i);
      text.append("step ").append(name).append(" 60 1 alone;");
      due.append(i == 0 ? "" : " ").append(name).append("60");
    }
    RecipeScheduler x = Kit.loaded(text.toString());
    x.pass(1);
    Kit.due("writeSummary()", x.writeSummary(), 125);
    Kit.due("summary", Kit.summary(x), due.toString());
    Kit.throwsJust(Kit.BOUNDS, "outputByte(125)", () -> x.outputByte(125));
  }

  static void promise64OutputByte() {
    RecipeScheduler x = Kit.fresh();
    for (int index : new int[] {-1, 0, 1, Integer.MAX_VALUE, Integer.MIN_VALUE}) {
      Kit.throwsJust(Kit.BOUNDS, "outputByte " + index, () -> x.outputByte(index));
    }
    x.writeSummary();
    Kit.due("outputByte(0)", x.outputByte(0), 'c');
    Kit.due("outputByte(3)", x.outputByte(3), '.');
    Kit.due("outputByte(4)", x.outputByte(4), ' ');
    Kit.due("outputByte(25)", x.outputByte(25), '.');
    for (int index : new int[] {-1, 26, Integer.MAX_VALUE, Integer.MIN_VALUE}) {
      Kit.throwsJust(Kit.BOUNDS, "outputByte " + index, () -> x.outputByte(index));
    }
    x.pass(1);
    Kit.due("outputByte(3), as it was written", x.outputByte(3), '.');
    Kit.load(x, "recipe 1 1 0 9;step a 1 1;");
    Kit.due("outputByte(25), as it was written", x.outputByte(25), '.');
    x.writeSummary();
    Kit.throwsJust(Kit.BOUNDS, "outputByte(2)", () -> x.outputByte(2));
  }
}
