/** The changes but pass() and runScript(): promises 53 to 58. */
final class ChangeTests {
  private ChangeTests() {}

  private static RecipeScheduler served() {
    RecipeScheduler x = Kit.fresh();
    x.pass(17);
    x.serve();
    return x;
  }

  static void promise53AddSalt() {
    RecipeScheduler x = Kit.fresh();
    Kit.due("addSalt(9)", x.addSalt(9), 9);
    Kit.due("addSalt(-9)", x.addSalt(-9), 0);
    Kit.due("addSalt(-9)", x.addSalt(-9), -9);
    x.pass(6);
    Kit.due("addSalt(1) with cut and fry", x.addSalt(1), -4);
    for (int amount : new int[] {0, 10, -10, Integer.MAX_VALUE, Integer.MIN_VALUE}) {
      Kit.throwsJust(Kit.ARGUMENT, "addSalt " + amount, () -> x.addSalt(amount));
    }
    RecipeScheduler y = served();
    Kit.throwsJust(Kit.STATE, "addSalt(1), served", () -> y.addSalt(1));
    Kit.throwsJust(Kit.ARGUMENT, "addSalt(0), served", () -> y.addSalt(0));
    Kit.throwsJust(Kit.ARGUMENT, "addSalt(10), served", () -> y.addSalt(10));
  }

  static void promise54Stop() {
    RecipeScheduler x = Kit.fresh();
    Kit.throwsJust(Kit.STATE, "stop() of a waiting step", () -> x.stop(0));
    x.pass(2);
    Kit.due("stop(0)", x.stop(0), 2);
    Kit.due("status(0)", x.status(0), RecipeScheduler.WAITING);
    Kit.due("remaining(0)", x.remaining(0), 0);
    Kit.due("starts()", x.starts(), 1);
    Kit.throwsJust(Kit.STATE, "stop() again", () -> x.stop(0));
    x.pass(1);
    Kit.due("remaining(0), the progress lost", x.remaining(0), 3);
    x.pass(3);
    Kit.throwsJust(Kit.STATE, "stop() of a done step", () -> x.stop(0));
    Kit.throwsJust(Kit.BOUNDS, "stop(5)", () -> x.stop(5));
    Kit.load(x, RecipeTests.BURNING);
    x.pass(7);
    Kit.throwsJust(Kit.STATE, "stop() of a burnt step", () -> x.stop(0));
    x.pass(4);
    x.stop(0);
    Kit.due("a step that was burnt once", x.status(0), RecipeScheduler.WAITING);
  }

  static void promise55Redo() {
    RecipeScheduler x = Kit.fresh();
    Kit.throwsJust(Kit.STATE, "redo() of a waiting step", () -> x.redo(0));
    x.pass(1);
    Kit.throwsJust(Kit.STATE, "redo() of a running step", () -> x.redo(0));
    x.pass(3);
    Kit.throwsJust(Kit.STATE, "redo() of a step that is taken up", () -> x.redo(0));
    x.pass(4);
    Kit.due("redo(FRY)", x.redo(Kit.FRY), 2);
    Kit.due("status(FRY)", x.status(Kit.FRY), RecipeScheduler.WAITING);
    Kit.due("age(FRY)", x.age(Kit.FRY), 0);
    Kit.due("completions()", x.completions(), 2);
    x.pass(30);
    Kit.throwsJust(Kit.STATE, "redo() of a step with a done successor", () -> x.redo(Kit.MIX));
    Kit.due("redo(REST)", x.redo(Kit.REST), 0);
    Kit.due("redo(MIX)", x.redo(Kit.MIX), 0);
    Kit.throwsJust(Kit.BOUNDS, "redo(5)", () -> x.redo(5));
    RecipeScheduler y = served();
    Kit.throwsJust(Kit.STATE, "redo(REST), served", () -> y.redo(Kit.REST));
    Kit.throwsJust(Kit.BOUNDS, "redo(5), served", () -> y.redo(5));
    y.undo();
    Kit.due("redo(REST)", y.redo(Kit.REST), 0);
    Kit.load(y, RecipeTests.BURNING);
    y.pass(7);
    Kit.throwsJust(Kit.STATE, "redo() of a burnt step", () -> y.redo(0));
  }

  static void promise56SetCooks() {
    RecipeScheduler x = Kit.fresh();
    Kit.due("setCooks(4)", x.setCooks(4), 1);
    Kit.due("setCooks(2)", x.setCooks(2), 4);
    Kit.due("setCooks(2)", x.setCooks(2), 2);
    Kit.due("cooks()", x.cooks(), 2);
    Kit.due("undo(), equal or not", x.undo(), 2);
    for (int cooks : new int[] {0, 5, -1, Integer.MAX_VALUE, Integer.MIN_VALUE}) {
      Kit.throwsJust(Kit.ARGUMENT, "setCooks " + cooks, () -> x.setCooks(cooks));
    }
    x.pass(1);
    x.setCooks(1);
    Kit.due("both go on", Kit.summary(x), "cut3 boil. fry2 mix. rest.");
    x.pass(1);
    Kit.due("both go on", Kit.summary(x), "cut2 boil. fry1 mix. rest.");
    RecipeScheduler y = served();
    Kit.due("setCooks(3), served", y.setCooks(3), 1);
    Kit.due("cooks()", y.cooks(), 3);
  }

  static void promise57SetDuration() {
    RecipeScheduler x = Kit.fresh();
    x.pass(1);
    Kit.due("setDuration(0, 60)", x.setDuration(0, 60), 3);
    Kit.due("setDuration(0, 1)", x.setDuration(0, 1), 60);
    Kit.due("remaining(0)", x.remaining(0), 3);
    Kit.due("duration(0)", x.duration(0), 1);
    x.stop(0);
    x.pass(1);
    Kit.due("path lengths say who is first", Kit.summary(x), "cut1 boil. fry. mix. rest.");
    for (int duration : new int[] {0, 61, -1, Integer.MAX_VALUE, Integer.MIN_VALUE}) {
      Kit.throwsJust(Kit.ARGUMENT, "setDuration", () -> x.setDuration(4, duration));
      Kit.throwsJust(Kit.BOUNDS, "setDuration", () -> x.setDuration(5, duration));
      Kit.throwsJust(Kit.BOUNDS, "setDuration", () -> x.setDuration(-1, duration));
    }
    Kit.throwsJust(Kit.BOUNDS, "setDuration", () -> x.setDuration(5, 5));
    RecipeScheduler y = served();
    Kit.due("setDuration(4, 9), served", y.setDuration(4, 9), 4);
  }

  static void promise57ANewDurationChangesThePriority() {
    RecipeScheduler x = Kit.loaded("recipe 1 9 0 9;step a 5 1;step b 4 1;");
    x.setDuration(1, 6);
    x.pass(1);
    Kit.due("b first", Kit.summary(x), "a. b6");
  }

  static void promise58Serve() {
    RecipeScheduler x = Kit.fresh();
    Kit.throwsJust(Kit.STATE, "serve(), not done", x::serve);
    x.pass(17);
    x.addSalt(3);
    Kit.throwsJust(Kit.STATE, "serve(), taste 10", x::serve);
    x.addSalt(-7);
    Kit.throwsJust(Kit.STATE, "serve(), taste 3", x::serve);
    x.addSalt(1);
    Kit.due("serve()", x.serve(), 4);
    Kit.due("taste()", x.taste(), 4);
    Kit.throwsJust(Kit.STATE, "serve(), served", x::serve);
    Kit.load(x, RecipeTests.BURNING);
    x.pass(7);
    Kit.throwsJust(Kit.STATE, "serve(), burnt", x::serve);
  }
}
