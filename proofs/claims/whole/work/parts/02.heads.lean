def R_Clients : String := "ScarredLog$Clients"
def R_Disk : String := "ScarredLog$Disk"
def R_Ledger : String := "ScarredLog$Ledger"
def R_Node : String := "ScarredLog$Node"
def R_Term : String := "ScarredLog$Term"
def R_SL : String := "ScarredLog"
def R_MO : String := "ScarredLogModel"
def R_SlotState : String := "ScarredLog$SlotState"
def R_LAW : String := "ScarredLogLaw"
def T_Clients : u_T := fun k => match k with
  | 0 => ("ScarredLog$Clients", "keys", "[I", true)
  | 1 => ("ScarredLog$Clients", "numbers", "[I", true)
  | 2 => ("ScarredLog$Clients", "latestAnswers", "[I", true)
  | 3 => ("ScarredLog$Clients", "timesHeard", "[I", true)
  | _ => ("ScarredLog$Clients", "count", "I", false)
def ty_Clients : Nat → FieldType := fun k => match k with
  | 0 => .array .int
  | 1 => .array .int
  | 2 => .array .int
  | 3 => .array .int
  | _ => .int
theorem nm_Clients : ∀ a, a < 5 → ∀ b, b < 5 → a ≠ b → (T_Clients a).2.1 ≠ (T_Clients b).2.1 := by decide +kernel
theorem ty_Clients_ok : ∀ k, k < 5 → parseFieldDescriptor (T_Clients k).2.2.1 = some (ty_Clients k) := by decide +kernel
def T_Disk : u_T := fun k => match k with
  | _ => ("ScarredLog$Disk", "bytes", "[I", true)
def ty_Disk : Nat → FieldType := fun k => match k with
  | _ => .array .int
theorem nm_Disk : ∀ a, a < 1 → ∀ b, b < 1 → a ≠ b → (T_Disk a).2.1 ≠ (T_Disk b).2.1 := by decide +kernel
theorem ty_Disk_ok : ∀ k, k < 1 → parseFieldDescriptor (T_Disk k).2.2.1 = some (ty_Disk k) := by decide +kernel
def T_Ledger : u_T := fun k => match k with
  | 0 => ("ScarredLog$Ledger", "clients", "LScarredLog$Clients;", true)
  | 1 => ("ScarredLog$Ledger", "commands", "[I", true)
  | 2 => ("ScarredLog$Ledger", "numbers", "[I", true)
  | 3 => ("ScarredLog$Ledger", "answers", "[I", true)
  | 4 => ("ScarredLog$Ledger", "done", "[Z", true)
  | _ => ("ScarredLog$Ledger", "slotsDone", "I", false)
def ty_Ledger : Nat → FieldType := fun k => match k with
  | 0 => .object "ScarredLog$Clients"
  | 1 => .array .int
  | 2 => .array .int
  | 3 => .array .int
  | 4 => .array .boolean
  | _ => .int
theorem nm_Ledger : ∀ a, a < 6 → ∀ b, b < 6 → a ≠ b → (T_Ledger a).2.1 ≠ (T_Ledger b).2.1 := by decide +kernel
theorem ty_Ledger_ok : ∀ k, k < 6 → parseFieldDescriptor (T_Ledger k).2.2.1 = some (ty_Ledger k) := by decide +kernel
def T_Node : u_T := fun k => match k with
  | 0 => ("ScarredLog$Node", "id", "I", true)
  | 1 => ("ScarredLog$Node", "disk", "LScarredLog$Disk;", true)
  | 2 => ("ScarredLog$Node", "slots", "[I", true)
  | 3 => ("ScarredLog$Node", "term", "LScarredLog$Term;", true)
  | 4 => ("ScarredLog$Node", "ledger", "LScarredLog$Ledger;", true)
  | 5 => ("ScarredLog$Node", "isUp", "Z", false)
  | 6 => ("ScarredLog$Node", "isMute", "Z", false)
  | 7 => ("ScarredLog$Node", "promised", "I", false)
  | _ => ("ScarredLog$Node", "armed", "I", false)
def ty_Node : Nat → FieldType := fun k => match k with
  | 0 => .int
  | 1 => .object "ScarredLog$Disk"
  | 2 => .array .int
  | 3 => .object "ScarredLog$Term"
  | 4 => .object "ScarredLog$Ledger"
  | 5 => .boolean
  | 6 => .boolean
  | 7 => .int
  | _ => .int
theorem nm_Node : ∀ a, a < 9 → ∀ b, b < 9 → a ≠ b → (T_Node a).2.1 ≠ (T_Node b).2.1 := by decide +kernel
theorem ty_Node_ok : ∀ k, k < 9 → parseFieldDescriptor (T_Node k).2.2.1 = some (ty_Node k) := by decide +kernel
def T_Term : u_T := fun k => match k with
  | 0 => ("ScarredLog$Term", "nodeCount", "I", true)
  | 1 => ("ScarredLog$Term", "told", "[I", true)
  | 2 => ("ScarredLog$Term", "assigned", "[I", true)
  | 3 => ("ScarredLog$Term", "fixed", "[I", true)
  | 4 => ("ScarredLog$Term", "voters", "[I", true)
  | 5 => ("ScarredLog$Term", "ballot", "I", false)
  | _ => ("ScarredLog$Term", "promisers", "I", false)
def ty_Term : Nat → FieldType := fun k => match k with
  | 0 => .int
  | 1 => .array .int
  | 2 => .array .int
  | 3 => .array .int
  | 4 => .array .int
  | 5 => .int
  | _ => .int
theorem nm_Term : ∀ a, a < 7 → ∀ b, b < 7 → a ≠ b → (T_Term a).2.1 ≠ (T_Term b).2.1 := by decide +kernel
theorem ty_Term_ok : ∀ k, k < 7 → parseFieldDescriptor (T_Term k).2.2.1 = some (ty_Term k) := by decide +kernel
def T_SL : u_T := fun k => match k with
  | 0 => ("ScarredLog", "clients", "LScarredLog$Clients;", true)
  | _ => ("ScarredLog", "nodes", "[LScarredLog$Node;", true)
def ty_SL : Nat → FieldType := fun k => match k with
  | 0 => .object "ScarredLog$Clients"
  | _ => .array (.object "ScarredLog$Node")
theorem nm_SL : ∀ a, a < 2 → ∀ b, b < 2 → a ≠ b → (T_SL a).2.1 ≠ (T_SL b).2.1 := by decide +kernel
theorem ty_SL_ok : ∀ k, k < 2 → parseFieldDescriptor (T_SL k).2.2.1 = some (ty_SL k) := by decide +kernel
def T_MO : u_T := fun k => match k with
  | 0 => ("ScarredLogModel", "nodes", "I", true)
  | 1 => ("ScarredLogModel", "requests", "I", false)
  | 2 => ("ScarredLogModel", "keys", "[I", true)
  | 3 => ("ScarredLogModel", "numbers", "[I", true)
  | 4 => ("ScarredLogModel", "heard", "[I", true)
  | 5 => ("ScarredLogModel", "times", "[I", true)
  | 6 => ("ScarredLogModel", "disk", "[I", true)
  | 7 => ("ScarredLogModel", "isUp", "[Z", true)
  | 8 => ("ScarredLogModel", "mute", "[Z", true)
  | 9 => ("ScarredLogModel", "armed", "[I", true)
  | 10 => ("ScarredLogModel", "promised", "[I", true)
  | 11 => ("ScarredLogModel", "term", "[I", true)
  | 12 => ("ScarredLogModel", "promisers", "[I", true)
  | 13 => ("ScarredLogModel", "slots", "[I", true)
  | 14 => ("ScarredLogModel", "assigned", "[I", true)
  | 15 => ("ScarredLogModel", "fixed", "[I", true)
  | 16 => ("ScarredLogModel", "chosen", "[I", true)
  | 17 => ("ScarredLogModel", "voters", "[I", true)
  | 18 => ("ScarredLogModel", "told", "[I", true)
  | 19 => ("ScarredLogModel", "done", "I", false)
  | 20 => ("ScarredLogModel", "map", "[I", true)
  | 21 => ("ScarredLogModel", "did", "[Z", true)
  | _ => ("ScarredLogModel", "answers", "[I", true)
def ty_MO : Nat → FieldType := fun k => match k with
  | 0 => .int
  | 1 => .int
  | 2 => .array .int
  | 3 => .array .int
  | 4 => .array .int
  | 5 => .array .int
  | 6 => .array .int
  | 7 => .array .boolean
  | 8 => .array .boolean
  | 9 => .array .int
  | 10 => .array .int
  | 11 => .array .int
  | 12 => .array .int
  | 13 => .array .int
  | 14 => .array .int
  | 15 => .array .int
  | 16 => .array .int
  | 17 => .array .int
  | 18 => .array .int
  | 19 => .int
  | 20 => .array .int
  | 21 => .array .boolean
  | _ => .array .int
theorem nm_MO : ∀ a, a < 23 → ∀ b, b < 23 → a ≠ b → (T_MO a).2.1 ≠ (T_MO b).2.1 := by decide +kernel
theorem ty_MO_ok : ∀ k, k < 23 → parseFieldDescriptor (T_MO k).2.2.1 = some (ty_MO k) := by decide +kernel
abbrev xCl : List vw_C := [(R_Clients, T_Clients, 5), (R_Disk, T_Disk, 1), (R_Ledger, T_Ledger, 6), (R_Node, T_Node, 9), (R_Term, T_Term, 7), (R_SL, T_SL, 2), (R_MO, T_MO, 23)]

