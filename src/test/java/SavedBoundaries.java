/** Promises 60 to 64 at their limits: undo, saved states and the output text. */
final class SavedBoundaries {
  private static final String SUMMARY = "Each step contributes its name, followed by a period "
      + "(byte 46) if it is waiting, its remaining time in decimal if it is running, an equals "
      + "sign (byte 61) if it is done, or an asterisk (byte 42) if it is burnt.";
  private static final String RESTORES =
      "Restores a saved state, which stays saved, and clears the undo history.";
  private static final int[] NO_SLOTS = {-1, 2, 3, 32, -32, Integer.MAX_VALUE, Integer.MIN_VALUE};

  private SavedBoundaries() {}

  @Sentence("Undoes the latest change that has not been undone.")
  static void promise60ChangesAreUndoneBackwards() {
    RecipeScheduler x = Kit.fresh();
    x.addSalt(1);
    x.addSalt(2);
    x.addSalt(4);
    x.undo();
    Kit.due("salt()", x.salt(), 3);
    x.addSalt(8);
    x.undo();
    Kit.due("salt(), the new change being undone", x.salt(), 3);
    x.undo();
    Kit.due("salt(), the undone one being passed over", x.salt(), 1);
    x.undo();
    Kit.due("salt()", x.salt(), 0);
  }

  @Sentence("Returns the number of changes that can still be undone.")
  static void promise60From5To0Changes() {
    for (int changes = 1; changes <= 13; changes++) {
      RecipeScheduler x = Kit.fresh();
      for (int i = 0; i < changes; i++) {
        x.setCooks(i % 4 + 1);
      }
      for (int left = Math.min(6, changes) - 1; left >= 0; left--) {
        Kit.due("undo()", x.undo(), left);
      }
    }
    RecipeScheduler x = Kit.fresh();
    for (int round = 0; round < 10; round++) {
      x.addSalt(1);
      x.addSalt(1);
      Kit.due("undo() of two", x.undo(), Math.min(5, round + 1));
    }
  }

  @Sentence("Throws `IllegalStateException` if there is none")
  static void promise60NoChangeOrNoneLeft() {
    Kit.refuses(Kit.STATE, Kit.NEW, "undo()", RecipeScheduler::undo);
    for (int changes = 1; changes <= 7; changes++) {
      int count = changes;
      Kit.Make make = Kit.NEW.then(x -> x.save(1), x -> x.writeSummary(), x -> {
        for (int i = 0; i < count; i++) {
          x.addSalt(1);
        }
        for (int i = 0; i < Math.min(6, count); i++) {
          x.undo();
        }
        return null;
      });
      Kit.refuses(Kit.STATE, make, "undo() after " + changes, RecipeScheduler::undo);
      Kit.due("undo() of one more", make.then(x -> x.addSalt(1)).made().undo(), 0);
    }
    Kit.refuses(Kit.STATE, Kit.USED.then(x -> x.restore(0)), "undo() after restore()",
        RecipeScheduler::undo);
    Kit.refuses(Kit.STATE, Kit.USED.fed(Kit.DEFAULT).then(RecipeScheduler::load),
        "undo() after load()", RecipeScheduler::undo);
  }

  @Sentence("`slot`: 0 or 1")
  static void promise61BothSlots() {
    RecipeScheduler x = Kit.fresh();
    Kit.due("save(0)", x.save(0), 0);
    Kit.due("save(1)", x.save(1), 0);
    x.pass(1);
    Kit.due("restore(0)", x.restore(0), 0);
    x.pass(1);
    Kit.due("restore(1)", x.restore(1), 0);
  }

  @Sentence("Saves the state and replaces what was saved in the slot before.")
  static void promise61OnlyTheSameSlotIsReplaced() {
    RecipeScheduler x = Kit.fresh();
    x.addSalt(1);
    x.save(0);
    x.addSalt(1);
    x.save(1);
    x.addSalt(1);
    x.save(0);
    x.addSalt(1);
    Kit.due("salt(), which stays", x.salt(), 4);
    x.restore(1);
    Kit.due("salt() in slot 1", x.salt(), 2);
    x.restore(0);
    Kit.due("salt() in slot 0", x.salt(), 3);
    Kit.Make saved = Kit.NEW.then(y -> y.pass(1), y -> y.save(0));
    Kit.due("undo(), the history staying", saved.made().undo(), 0);
  }

  @Sentence("Returns the current minute.")
  static void promise61MinutesFrom0To9999() {
    Kit.due("save(0)", Kit.fresh().save(0), 0);
    Kit.due("save(1)", Kit.atMinute(1, Kit.NEW).made().save(1), 1);
    Kit.due("save(1)", Kit.atMinute(9999, Kit.NEW).made().save(1), 9999);
  }

  @Sentence("Throws `IndexOutOfBoundsException` if the slot does not exist")
  static void promise61OtherSlotsAreRefused() {
    Kit.refuses(Kit.BOUNDS, Kit.USED, "save", NO_SLOTS, (x, slot) -> x.save(slot));
    Kit.refuses(Kit.BOUNDS, Kit.NEW, "save", NO_SLOTS, (x, slot) -> x.save(slot));
  }

  @Sentence("`slot`: 0 or 1")
  static void promise62BothSlots() {
    RecipeScheduler x = Kit.NEW.then(y -> y.pass(4), y -> y.save(0), y -> y.pass(3), y -> y.save(1))
        .made();
    Kit.due("restore(0)", x.restore(0), 4);
    Kit.due("restore(1)", x.restore(1), 7);
  }

  @Sentence(RESTORES)
  static void promise62TheStateStaysSaved() {
    Kit.Make saved = Kit.NEW.then(x -> x.pass(4), x -> x.save(1));
    RecipeScheduler x = saved.then(y -> y.pass(3), y -> y.restore(1)).made();
    Kit.due("state", Kit.state(x), Kit.state(saved.made()));
    x.pass(50);
    x.addSalt(3);
    Kit.due("restore(1)", x.restore(1), 4);
    Kit.due("state", Kit.state(x), Kit.state(saved.made()));
  }

  @Sentence(RESTORES)
  static void promise62TheUndoHistoryIsEmptyThen() {
    Kit.Make make = Kit.USED.then(x -> x.restore(0));
    Kit.refuses(Kit.STATE, make, "undo()", RecipeScheduler::undo);
    RecipeScheduler x = make.then(y -> y.addSalt(1)).made();
    Kit.due("undo()", x.undo(), 0);
    Kit.due("state", Kit.state(x), Kit.state(make.made()));
  }

  @Sentence("Returns the current minute of the restored state.")
  static void promise62MinutesFrom0To9999() {
    Kit.Make late = Kit.NEW.then(x -> x.save(0));
    late = Kit.atMinute(9999, late).then(x -> x.save(1));
    RecipeScheduler x = late.made();
    Kit.due("restore(0)", x.restore(0), 0);
    Kit.due("minute()", x.minute(), 0);
    Kit.due("restore(1)", x.restore(1), 9999);
    Kit.due("minute()", x.minute(), 9999);
  }

  @Sentence("Throws `IndexOutOfBoundsException` if the slot does not exist")
  static void promise62OtherSlotsAreRefused() {
    Kit.refuses(Kit.BOUNDS, Kit.USED, "restore", NO_SLOTS, (x, slot) -> x.restore(slot));
    Kit.refuses(Kit.BOUNDS, Kit.NEW, "restore", NO_SLOTS, (x, slot) -> x.restore(slot));
  }

  @Sentence("Throws `IllegalStateException` if nothing is saved in the slot")
  static void promise62NothingInTheSlot() {
    for (int slot = 0; slot < 2; slot++) {
      int empty = slot;
      Kit.Make make = Kit.NEW.then(x -> x.pass(2), x -> x.save(1 - empty), x -> x.pass(1));
      Kit.refuses(Kit.STATE, make, "restore() of slot " + slot, x -> x.restore(empty));
      Kit.due("restore() of the other slot", make.made().restore(1 - slot), 2);
      Kit.refuses(Kit.STATE, Kit.USED.fed(Kit.DEFAULT).then(RecipeScheduler::load),
          "restore() after load()", x -> x.restore(empty));
    }
  }

  @Sentence(SUMMARY)
  static void promise63EachStatusHasItsSign() {
    Kit.Make make = Kit.made(ProgressTermsBoundaries.BURNT_AFTER);
    Kit.due("minute 0", Kit.summary(make.made()), "a. b. c.");
    Kit.due("minute 1", Kit.summary(make.then(x -> x.pass(1)).made()), "a1 b. c.");
    Kit.due("minute 7", Kit.summary(make.then(x -> x.pass(7)).made()), "a= b= c4");
    Kit.due("minute 8", Kit.summary(make.then(x -> x.pass(8)).made()), "a= b* c3");
    RecipeScheduler x = make.then(y -> y.pass(8)).made();
    x.writeSummary();
    int[] due = {97, 61, 32, 98, 42, 32, 99, 51};
    for (int i = 0; i < due.length; i++) {
      Kit.due("outputByte " + i, x.outputByte(i), due[i]);
    }
    RecipeScheduler y = Kit.fresh();
    y.writeSummary();
    Kit.due("outputByte(3)", y.outputByte(3), 46);
  }

  @Sentence(SUMMARY)
  static void promise63RemainingTimesOf1And2Digits() {
    RecipeScheduler x = Kit.loaded("recipe 1 0 0 9;step a 60 1;");
    for (int due = 60; due >= 1; due--) {
      x.pass(1);
      Kit.due("summary", Kit.summary(x), "a" + due);
    }
    x.pass(1);
    Kit.due("summary", Kit.summary(x), "a=");
  }

  @Sentence("The steps appear by ascending number with one space (byte 32) between them.")
  static void promise63OneStepAndFourteen() {
    Kit.due("summary", Kit.summary(Kit.loaded("recipe 1 0 0 9;step z 60 1;")), "z.");
    Kit.due("summary", Kit.summary(Kit.loaded("recipe 1 0 0 9;step z 60 1;step a 1 1;")), "z. a.");
    Kit.due("summary", Kit.summary(Kit.loaded(Kit.steps(14))),
        "a. b. c. d. e. f. g. h. i. j. k. l. m. n.");
  }

  @Sentence("Returns the length of the output text in bytes.")
  static void promise63LengthsFrom2To125() {
    Kit.due("writeSummary()", Kit.loaded(Kit.steps(1)).writeSummary(), 2);
    StringBuilder text = new StringBuilder("recipe 4 0 0 99;");
    for (int i = 0; i < 14; i++) {
      text.append("step abcde").append((char) ('a' + i)).append(" 60 1 alone;");
    }
    RecipeScheduler x = Kit.loaded(text.toString());
    Kit.due("writeSummary()", x.writeSummary(), 14 * 7 + 13);
    x.pass(1);
    Kit.due("writeSummary()", x.writeSummary(), 14 * 8 + 13);
    Kit.due("outputByte(124)", x.outputByte(124), '0');
    Kit.throwsJust(Kit.BOUNDS, "outputByte(125)", () -> x.outputByte(125));
  }

  @Sentence("Writes a summary of all steps to the output text, which is replaced.")
  static void promise63AShorterTextReplacesALongerOne() {
    RecipeScheduler x = Kit.loaded("recipe 1 0 0 9;step a 10 1;");
    x.pass(1);
    Kit.due("writeSummary()", x.writeSummary(), 3);
    x.pass(1);
    Kit.due("outputByte(1), as it was written", x.outputByte(1), '1');
    Kit.due("writeSummary()", x.writeSummary(), 2);
    Kit.due("outputByte(1)", x.outputByte(1), '9');
    Kit.throwsJust(Kit.BOUNDS, "outputByte(2)", () -> x.outputByte(2));
  }

  @Sentence({"`index`: position in the output text, from 0", "Returns the byte."})
  static void promise64TheFirstAndTheLastByte() {
    RecipeScheduler x = Kit.fresh();
    String due = "cut. boil. fry. mix. rest.";
    Kit.due("writeSummary()", x.writeSummary(), 26);
    for (int index = 0; index < 26; index++) {
      Kit.due("outputByte " + index, x.outputByte(index), due.charAt(index));
    }
  }

  @Sentence("Throws `IndexOutOfBoundsException` if index is out of range or nothing was written "
      + "yet")
  static void promise64OtherIndexesAreRefused() {
    Kit.Make written = Kit.NEW.then(RecipeScheduler::writeSummary);
    Kit.refuses(Kit.BOUNDS, written, "outputByte", Kit.around(26),
        (x, index) -> x.outputByte(index));
    Kit.refuses(Kit.BOUNDS, Kit.NEW, "outputByte", new int[] {-1, 0, 1, 26, Integer.MAX_VALUE,
        Integer.MIN_VALUE}, (x, index) -> x.outputByte(index));
    Kit.refuses(Kit.BOUNDS, Kit.NEW.then(x -> x.pass(9), x -> x.save(0)), "outputByte", new int[1],
        (x, index) -> x.outputByte(index));
  }
}
