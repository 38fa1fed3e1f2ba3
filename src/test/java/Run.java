/**
 * A run of calls on a new object, told as "key 5 = 0; balance 10000 = false; connect = EMPTY". Each
 * answer must be the one written, if one is, and that of the model, so that neither the writer nor the
 * model is trusted alone.
 */
final class Run {
  private final Check check;
  private final String sentence;
  private final Subject subject = new Subject();
  private final Model model = new Model();
  private String before = "";

  /** The sentence of the document that the run would find broken. */
  Run(Check check, String sentence) {
    this.check = check;
    this.sentence = sentence;
  }

  Run does(String calls) {
    for (String line : calls.split(";")) {
      if (!line.isBlank()) {
        one(line.trim());
      }
    }
    return this;
  }

  /** The call with each of the words in the place of the sign @. */
  Run each(String words, String calls) {
    for (String word : words.trim().split(" +")) {
      does(calls.replace("@", word));
    }
    return this;
  }

  /** What is due, for runs in which one call's answer is another's argument. */
  int due(String call) {
    return Subject.answer(model, call);
  }

  private void one(String line) {
    String[] halves = line.split("=");
    String call = halves[0].trim();
    int got = subject.ask(call);
    String told = "\"" + sentence + "\":" + before + " " + call;
    check.due(told + " (model)", got, Subject.answer(model, call));
    if (halves.length > 1) {
      check.due(told, got, Subject.number(halves[1].trim()));
    }
    before += " " + call + ";";
  }
}
