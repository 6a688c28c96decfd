/-! JDK: bitCount -/
def bcI (x0 : Int32) : Int32 := ((((((((x0 - ((jushr x0 1) &&& 1431655765)) &&& 858993459) + ((jushr (x0 - ((jushr x0 1) &&& 1431655765)) 2) &&& 858993459)) + (jushr (((x0 - ((jushr x0 1) &&& 1431655765)) &&& 858993459) + ((jushr (x0 - ((jushr x0 1) &&& 1431655765)) 2) &&& 858993459)) 4)) &&& 252645135) + (jushr (((((x0 - ((jushr x0 1) &&& 1431655765)) &&& 858993459) + ((jushr (x0 - ((jushr x0 1) &&& 1431655765)) 2) &&& 858993459)) + (jushr (((x0 - ((jushr x0 1) &&& 1431655765)) &&& 858993459) + ((jushr (x0 - ((jushr x0 1) &&& 1431655765)) 2) &&& 858993459)) 4)) &&& 252645135) 8)) + (jushr ((((((x0 - ((jushr x0 1) &&& 1431655765)) &&& 858993459) + ((jushr (x0 - ((jushr x0 1) &&& 1431655765)) 2) &&& 858993459)) + (jushr (((x0 - ((jushr x0 1) &&& 1431655765)) &&& 858993459) + ((jushr (x0 - ((jushr x0 1) &&& 1431655765)) 2) &&& 858993459)) 4)) &&& 252645135) + (jushr (((((x0 - ((jushr x0 1) &&& 1431655765)) &&& 858993459) + ((jushr (x0 - ((jushr x0 1) &&& 1431655765)) 2) &&& 858993459)) + (jushr (((x0 - ((jushr x0 1) &&& 1431655765)) &&& 858993459) + ((jushr (x0 - ((jushr x0 1) &&& 1431655765)) 2) &&& 858993459)) 4)) &&& 252645135) 8)) 16)) &&& 63)
theorem bc_2 : ∀ a, a < 64 → ∀ b, b < 64 → bcI (nI (64 * a + b)) = nI (fb_ct (fun i => (64 * a + b).testBit i) 12) := by decide +kernel
theorem bc_all (v : Nat) (h : v < 4096) : bcI (nI v) = nI (fb_ct (fun i => v.testBit i) 12) := by
  have z := bc_2 (v / 64) (by omega) (v % 64) (by omega)
  rw [show 64 * (v / 64) + v % 64 = v by omega] at z
  exact z
theorem c_bitCount {G : td_G} {d : Nat} {h : td_H} (x : Int32) (v : Nat) (hx : x = nI v) (hv : v < 4096) : td_C G d mJ6_bitCount_0f7a4 [.int x] h (eR (nI (fb_ct (fun i => v.testBit i) 12)) h) := by
  refine td_entry rfl (Nat.le_of_ble_eq_true rfl) rfl (rJ6_bitCount_0f7a4_0 ⟨?_, rfl⟩)
  rw [← bc_all v hv, hx]
  rfl
