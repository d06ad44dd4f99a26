theorem bl_wsX10 : ∀ w ∈ wsX10, w ∈ lw_tbl := fun w h => by
  obtain ⟨k, hk, rfl⟩ := List.mem_map.mp h
  have hk := List.mem_range.mp hk
  match k, hk with
  | 0, _ => exact List.mem_append_right _ (List.mem_of_getElem? (i := 84) (by decide +kernel))
  | 1, _ => exact List.mem_append_right _ (List.mem_of_getElem? (i := 86) (by decide +kernel))
  | 2, _ => exact List.mem_append_right _ (List.mem_of_getElem? (i := 88) (by decide +kernel))
  | 3, _ => exact List.mem_append_right _ (List.mem_of_getElem? (i := 90) (by decide +kernel))
  | k + 4, h => exact absurd h (by omega)
theorem bl_wsX30 : ∀ w ∈ wsX30, w ∈ lw_tbl := fun w h => by
  obtain ⟨k, hk, rfl⟩ := List.mem_map.mp h
  have hk := List.mem_range.mp hk
  match k, hk with
  | 0, _ => exact List.mem_append_right _ (List.mem_of_getElem? (i := 364) (by decide +kernel))
  | 1, _ => exact List.mem_append_right _ (List.mem_of_getElem? (i := 366) (by decide +kernel))
  | 2, _ => exact List.mem_append_right _ (List.mem_of_getElem? (i := 368) (by decide +kernel))
  | 3, _ => exact List.mem_append_right _ (List.mem_of_getElem? (i := 370) (by decide +kernel))
  | 4, _ => exact List.mem_append_right _ (List.mem_of_getElem? (i := 372) (by decide +kernel))
  | 5, _ => exact List.mem_append_right _ (List.mem_of_getElem? (i := 374) (by decide +kernel))
  | k + 6, h => exact absurd h (by omega)
theorem bl_wsJx4a65c0 : ∀ w ∈ wsJx4a65c0, w ∈ lw_tbl := fun w h => by
  obtain ⟨k, hk, rfl⟩ := List.mem_map.mp h
  have hk := List.mem_range.mp hk
  match k, hk with
  | 0, _ => exact List.mem_append_right _ (List.mem_of_getElem? (i := 60) (by decide +kernel))
  | 1, _ => exact List.mem_append_right _ (List.mem_of_getElem? (i := 56) (by decide +kernel))
  | 2, _ => exact List.mem_append_right _ (List.mem_of_getElem? (i := 58) (by decide +kernel))
  | k + 3, h => exact absurd h (by omega)
theorem bl_wsX70 : ∀ w ∈ wsX70, w ∈ lw_tbl := fun w h => by
  obtain ⟨k, hk, rfl⟩ := List.mem_map.mp h
  have hk := List.mem_range.mp hk
  match k, hk with
  | 0, _ => exact List.mem_append_right _ (List.mem_of_getElem? (i := 65) (by decide +kernel))
  | 1, _ => exact List.mem_append_right _ (List.mem_of_getElem? (i := 67) (by decide +kernel))
  | k + 2, h => exact absurd h (by omega)
theorem bl_wsX00 : ∀ w ∈ wsX00, w ∈ lw_tbl := fun w h => by
  obtain ⟨k, hk, rfl⟩ := List.mem_map.mp h
  have hk := List.mem_range.mp hk
  match k, hk with
  | 0, _ => exact List.mem_append_right _ (List.mem_of_getElem? (i := 459) (by decide +kernel))
  | 1, _ => exact List.mem_append_right _ (List.mem_of_getElem? (i := 461) (by decide +kernel))
  | k + 2, h => exact absurd h (by omega)
theorem bl_wsX50 : ∀ w ∈ wsX50, w ∈ lw_tbl := fun w h => by
  obtain ⟨k, hk, rfl⟩ := List.mem_map.mp h
  have hk := List.mem_range.mp hk
  match k, hk with
  | 0, _ => exact List.mem_append_right _ (List.mem_of_getElem? (i := 221) (by decide +kernel))
  | 1, _ => exact List.mem_append_right _ (List.mem_of_getElem? (i := 223) (by decide +kernel))
  | 2, _ => exact List.mem_append_right _ (List.mem_of_getElem? (i := 225) (by decide +kernel))
  | 3, _ => exact List.mem_append_right _ (List.mem_of_getElem? (i := 227) (by decide +kernel))
  | 4, _ => exact List.mem_append_right _ (List.mem_of_getElem? (i := 229) (by decide +kernel))
  | 5, _ => exact List.mem_append_right _ (List.mem_of_getElem? (i := 231) (by decide +kernel))
  | 6, _ => exact List.mem_append_right _ (List.mem_of_getElem? (i := 233) (by decide +kernel))
  | 7, _ => exact List.mem_append_right _ (List.mem_of_getElem? (i := 235) (by decide +kernel))
  | 8, _ => exact List.mem_append_right _ (List.mem_of_getElem? (i := 237) (by decide +kernel))
  | 9, _ => exact List.mem_append_right _ (List.mem_of_getElem? (i := 239) (by decide +kernel))
  | 10, _ => exact List.mem_append_right _ (List.mem_of_getElem? (i := 241) (by decide +kernel))
  | 11, _ => exact List.mem_append_right _ (List.mem_of_getElem? (i := 243) (by decide +kernel))
  | k + 12, h => exact absurd h (by omega)
theorem bl_wsX90 : ∀ w ∈ wsX90, w ∈ lw_tbl := fun w h => by
  obtain ⟨k, hk, rfl⟩ := List.mem_map.mp h
  have hk := List.mem_range.mp hk
  match k, hk with
  | 0, _ => exact List.mem_append_right _ (List.mem_of_getElem? (i := 731) (by decide +kernel))
  | 1, _ => exact List.mem_append_right _ (List.mem_of_getElem? (i := 733) (by decide +kernel))
  | 2, _ => exact List.mem_append_right _ (List.mem_of_getElem? (i := 735) (by decide +kernel))
  | 3, _ => exact List.mem_append_right _ (List.mem_of_getElem? (i := 737) (by decide +kernel))
  | 4, _ => exact List.mem_append_right _ (List.mem_of_getElem? (i := 739) (by decide +kernel))
  | 5, _ => exact List.mem_append_right _ (List.mem_of_getElem? (i := 741) (by decide +kernel))
  | 6, _ => exact List.mem_append_right _ (List.mem_of_getElem? (i := 743) (by decide +kernel))
  | 7, _ => exact List.mem_append_right _ (List.mem_of_getElem? (i := 745) (by decide +kernel))
  | 8, _ => exact List.mem_append_right _ (List.mem_of_getElem? (i := 747) (by decide +kernel))
  | 9, _ => exact List.mem_append_right _ (List.mem_of_getElem? (i := 749) (by decide +kernel))
  | 10, _ => exact List.mem_append_right _ (List.mem_of_getElem? (i := 751) (by decide +kernel))
  | 11, _ => exact List.mem_append_right _ (List.mem_of_getElem? (i := 753) (by decide +kernel))
  | 12, _ => exact List.mem_append_right _ (List.mem_of_getElem? (i := 755) (by decide +kernel))
  | 13, _ => exact List.mem_append_right _ (List.mem_of_getElem? (i := 757) (by decide +kernel))
  | k + 14, h => exact absurd h (by omega)
theorem bl_wsX20 : ∀ w ∈ wsX20, w ∈ lw_tbl := fun w h => by
  obtain ⟨k, hk, rfl⟩ := List.mem_map.mp h
  have hk := List.mem_range.mp hk
  match k, hk with
  | 0, _ => exact List.mem_append_right _ (List.mem_of_getElem? (i := 188) (by decide +kernel))
  | 1, _ => exact List.mem_append_right _ (List.mem_of_getElem? (i := 190) (by decide +kernel))
  | 2, _ => exact List.mem_append_right _ (List.mem_of_getElem? (i := 192) (by decide +kernel))
  | 3, _ => exact List.mem_append_right _ (List.mem_of_getElem? (i := 194) (by decide +kernel))
  | k + 4, h => exact absurd h (by omega)
theorem bl_wsX60 : ∀ w ∈ wsX60, w ∈ lw_tbl := fun w h => by
  obtain ⟨k, hk, rfl⟩ := List.mem_map.mp h
  have hk := List.mem_range.mp hk
  match k, hk with
  | 0, _ => exact List.mem_append_right _ (List.mem_of_getElem? (i := 165) (by decide +kernel))
  | 1, _ => exact List.mem_append_right _ (List.mem_of_getElem? (i := 167) (by decide +kernel))
  | 2, _ => exact List.mem_append_right _ (List.mem_of_getElem? (i := 169) (by decide +kernel))
  | 3, _ => exact List.mem_append_right _ (List.mem_of_getElem? (i := 171) (by decide +kernel))
  | k + 4, h => exact absurd h (by omega)
theorem bl_wsX40 : ∀ w ∈ wsX40, w ∈ lw_tbl := fun w h => by
  obtain ⟨k, hk, rfl⟩ := List.mem_map.mp h
  have hk := List.mem_range.mp hk
  match k, hk with
  | 0, _ => exact List.mem_append_right _ (List.mem_of_getElem? (i := 273) (by decide +kernel))
  | 1, _ => exact List.mem_append_right _ (List.mem_of_getElem? (i := 275) (by decide +kernel))
  | 2, _ => exact List.mem_append_right _ (List.mem_of_getElem? (i := 277) (by decide +kernel))
  | 3, _ => exact List.mem_append_right _ (List.mem_of_getElem? (i := 279) (by decide +kernel))
  | 4, _ => exact List.mem_append_right _ (List.mem_of_getElem? (i := 281) (by decide +kernel))
  | 5, _ => exact List.mem_append_right _ (List.mem_of_getElem? (i := 283) (by decide +kernel))
  | 6, _ => exact List.mem_append_right _ (List.mem_of_getElem? (i := 285) (by decide +kernel))
  | 7, _ => exact List.mem_append_right _ (List.mem_of_getElem? (i := 287) (by decide +kernel))
  | 8, _ => exact List.mem_append_right _ (List.mem_of_getElem? (i := 289) (by decide +kernel))
  | 9, _ => exact List.mem_append_right _ (List.mem_of_getElem? (i := 291) (by decide +kernel))
  | 10, _ => exact List.mem_append_right _ (List.mem_of_getElem? (i := 293) (by decide +kernel))
  | 11, _ => exact List.mem_append_right _ (List.mem_of_getElem? (i := 295) (by decide +kernel))
  | 12, _ => exact List.mem_append_right _ (List.mem_of_getElem? (i := 297) (by decide +kernel))
  | 13, _ => exact List.mem_append_right _ (List.mem_of_getElem? (i := 299) (by decide +kernel))
  | 14, _ => exact List.mem_append_right _ (List.mem_of_getElem? (i := 301) (by decide +kernel))
  | 15, _ => exact List.mem_append_right _ (List.mem_of_getElem? (i := 303) (by decide +kernel))
  | 16, _ => exact List.mem_append_right _ (List.mem_of_getElem? (i := 305) (by decide +kernel))
  | 17, _ => exact List.mem_append_right _ (List.mem_of_getElem? (i := 307) (by decide +kernel))
  | k + 18, h => exact absurd h (by omega)
theorem bl_wsX100 : ∀ w ∈ wsX100, w ∈ lw_tbl := fun w h => by
  obtain ⟨k, hk, rfl⟩ := List.mem_map.mp h
  have hk := List.mem_range.mp hk
  match k, hk with
  | 0, _ => exact List.mem_append_right _ (List.mem_of_getElem? (i := 101) (by decide +kernel))
  | 1, _ => exact List.mem_append_right _ (List.mem_of_getElem? (i := 103) (by decide +kernel))
  | 2, _ => exact List.mem_append_right _ (List.mem_of_getElem? (i := 105) (by decide +kernel))
  | 3, _ => exact List.mem_append_right _ (List.mem_of_getElem? (i := 107) (by decide +kernel))
  | 4, _ => exact List.mem_append_right _ (List.mem_of_getElem? (i := 109) (by decide +kernel))
  | 5, _ => exact List.mem_append_right _ (List.mem_of_getElem? (i := 111) (by decide +kernel))
  | 6, _ => exact List.mem_append_right _ (List.mem_of_getElem? (i := 113) (by decide +kernel))
  | 7, _ => exact List.mem_append_right _ (List.mem_of_getElem? (i := 115) (by decide +kernel))
  | k + 8, h => exact absurd h (by omega)
theorem bl_wsX80 : ∀ w ∈ wsX80, w ∈ lw_tbl := fun w h => by
  obtain ⟨k, hk, rfl⟩ := List.mem_map.mp h
  have hk := List.mem_range.mp hk
  match k, hk with
  | 0, _ => exact List.mem_append_right _ (List.mem_of_getElem? (i := 146) (by decide +kernel))
  | k + 1, h => exact absurd h (by omega)
